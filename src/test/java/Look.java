/** What can be seen of a desk, as one text. A desk is promised for 512 calls; each look says how many it takes. */
final class Look {
    private Look() {
    }

    /** All that a desk tells without being changed: 70 calls. */
    static String state(StockDesk desk) {
        StringBuilder text = new StringBuilder(counts(desk));
        for (int part = 0; part < 6; part++) {
            text.append(" worth").append(desk.worth(part));
        }
        for (int kind = 0; kind < 5; kind++) {
            int k = kind;
            text.append(" made").append(desk.numbers(kind, 0)).append(" there").append(desk.numbers(kind, 1));
            for (int number = 1; number <= 9; number++) {
                int n = number;
                text.append(' ').append(Due.outcome(() -> desk.uses(k, n)));
            }
        }
        return text.append(" sums").append(desk.sums()).toString();
    }

    /** 8 calls. */
    private static String counts(StockDesk desk) {
        StringBuilder text = new StringBuilder();
        for (int what = 0; what < 4; what++) {
            text.append(" count").append(desk.count(what)).append(" told").append(desk.told(what));
        }
        return text.toString();
    }

    /** What each part would answer for each number: 54 calls. */
    private static String second(StockDesk desk) {
        StringBuilder text = new StringBuilder();
        for (int part = 0; part < 6; part++) {
            for (int number = 1; number <= 9; number++) {
                int p = part;
                int n = number;
                text.append(" again").append(Due.outcome(() -> desk.again(p, n, 7)));
            }
        }
        return text.toString();
    }

    /** What each part answers for the first two numbers, which alone shows what parts hold on this house: 20 calls. */
    private static String calls(StockDesk desk) {
        StringBuilder text = new StringBuilder();
        for (int part = 0; part < 6; part++) {
            for (int number = 1; number <= 2; number++) {
                int p = part;
                int n = number;
                text.append(" call").append(Due.outcome(() -> desk.call(p, n, 3)));
            }
        }
        return text.append(counts(desk)).toString();
    }

    /** What is left as the acts are taken back one by one: at most 181 calls. */
    private static String backs(StockDesk desk) {
        StringBuilder text = new StringBuilder();
        for (int left = desk.count(0); left > 0; left--) {
            text.append(" back").append(desk.back()).append(' ').append(desk.count(1)).append(' ').append(desk.sums());
        }
        return text.toString();
    }

    /** All that can be seen of a desk, which is of no use behind it: at most 325 calls. */
    static String whole(StockDesk desk) {
        return state(desk) + second(desk) + calls(desk) + backs(desk);
    }
}

/** All promises: long mixed runs of calls, each answer held against the paper house's. */
public final class LongRunsTest {
    private static final int RUNS = 400;
    private static final int CALLS = 512;
    private static final String[] ACTS = {"make", "drop", "serves", "answers", "fails", "call", "call", "call", "collect"};
    private static final String[] LOOKS = {"again", "again", "sums", "told", "worth", "uses", "numbers", "count"};
    private static final int[] EDGES = {
        Integer.MIN_VALUE, -1000001, -1000000, -1, 0, 1, 4, 5, 6, 9, 10, 255, 256, 1000000, 1000001, Integer.MAX_VALUE};

    private long seed;

    private LongRunsTest(long seed) {
        this.seed = seed;
    }

    /** The same numbers on every machine, so that a fault told once can be seen again. */
    private int below(int bound) {
        seed = seed * 6364136223846793005L + 1442695040888963407L;
        return (int) ((seed >>> 33) % bound);
    }

    public static void main(String[] args) {
        Due due = new Due("Long runs");
        for (int run = 0; run < RUNS; run++) {
            new LongRunsTest(run).run(due, run);
        }
        due.end();
    }

    private void run(Due due, int run) {
        StockDesk desk = new StockDesk();
        PaperHouse paper = new PaperHouse();
        int backs = 1 + below(12);
        for (int i = 0; i < CALLS; i++) {
            String name = name(backs);
            int x = argument(firstBound(name));
            int y = name.equals("answers") ? amount() : argument(secondBound(name));
            int z = amount();
            String want = Due.outcome(() -> paper.answer(name, x, y, z));
            String got = Due.outcome(() -> ask(desk, name, x, y, z));
            due.same("run " + run + " call " + i + ": " + name + " " + x + " " + y + " " + z, got, want);
        }
    }

    private String name(int backs) {
        int pick = below(36);
        if (pick < backs) {
            return "back";
        }
        return pick < 24 ? ACTS[below(ACTS.length)] : LOOKS[below(LOOKS.length)];
    }

    private static int firstBound(String name) {
        return switch (name) {
            case "make", "drop", "uses", "numbers" -> 5;
            case "collect" -> 256;
            case "told", "count" -> 4;
            default -> 6;
        };
    }

    private static int secondBound(String name) {
        return switch (name) {
            case "serves" -> 5;
            case "fails" -> 4;
            case "numbers" -> 2;
            default -> 4;
        };
    }

    private int argument(int bound) {
        return below(25) == 0 ? EDGES[below(EDGES.length)] : below(bound);
    }

    private int amount() {
        return below(12) == 0 ? EDGES[below(EDGES.length)] : below(2000001) - 1000000;
    }

    private static long ask(StockDesk desk, String name, int x, int y, int z) {
        switch (name) {
            case "make":
                return desk.make(x);
            case "drop":
                return desk.drop(x, y);
            case "serves":
                desk.serves(x, y);
                return 0;
            case "answers":
                desk.answers(x, y, z);
                return 0;
            case "fails":
                return desk.fails(x, y);
            case "call":
                return desk.call(x, y, z);
            case "again":
                return desk.again(x, y, z);
            case "collect":
                return desk.collect(x);
            case "sums":
                return desk.sums();
            case "back":
                return desk.back();
            case "told":
                return desk.told(x);
            case "worth":
                return desk.worth(x);
            case "uses":
                return desk.uses(x, y);
            case "numbers":
                return desk.numbers(x, y);
            default:
                return desk.count(x);
        }
    }
}

/** The desks that tests begin with. */
final class Desks {
    static final int ACTS = 60;
    static final int BUSY_ACTS = 12;

    private Desks() {
    }

    static StockDesk empty() {
        return new StockDesk();
    }

    /**
     * Something of everything, in 12 acts. Of kind 0 the thing 2 is there and the thing 1 dropped, of kinds 1 and 4
     * the thing 1 is there. Part 0 answers 50 + 2 a + number + 6, part 3 serves kind 4, part 5 fails amid its work.
     */
    static StockDesk busy() {
        StockDesk desk = new StockDesk();
        desk.make(0);
        desk.make(0);
        desk.make(1);
        desk.make(4);
        desk.drop(0, 1);
        desk.serves(3, 4);
        desk.answers(0, 50, 2);
        desk.call(0, 2, 6);
        desk.fails(5, 2);
        Due.outcome(() -> desk.call(5, 2, 3));
        desk.collect(200);
        desk.call(4, 1, -8);
        return desk;
    }

    /** The busy desk with bytes collected until there are so many acts. */
    static StockDesk busyTo(int acts) {
        StockDesk desk = busy();
        for (int done = BUSY_ACTS; done < acts; done++) {
            desk.collect(done);
        }
        return desk;
    }

    static StockDesk full() {
        return busyTo(ACTS);
    }

    static StockDesk thingsOf(int kind, int many) {
        StockDesk desk = new StockDesk();
        for (int number = 1; number <= many; number++) {
            desk.make(kind);
        }
        return desk;
    }

    static StockDesk nineOf(int kind) {
        return thingsOf(kind, 9);
    }

    /** A byte, so many of 255, and a byte. */
    static StockDesk bytesOf(int first, int between, int last) {
        StockDesk desk = new StockDesk();
        desk.collect(first);
        for (int i = 0; i < between; i++) {
            desk.collect(255);
        }
        desk.collect(last);
        return desk;
    }

    /** One thing of each kind, so that every part has one to be called with. */
    static StockDesk oneOfEach() {
        StockDesk desk = new StockDesk();
        for (int kind = 0; kind < 5; kind++) {
            desk.make(kind);
        }
        return desk;
    }
}

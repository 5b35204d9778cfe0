import java.util.NoSuchElementException;

/** What every test shares: it compares, prints what is not as due, and ends with exit code 1 if anything was not. */
final class Due {
    static final Class<? extends RuntimeException> RANGE = IllegalArgumentException.class;
    static final Class<? extends RuntimeException> MISSING = NoSuchElementException.class;
    static final Class<? extends RuntimeException> STATE = IllegalStateException.class;
    static final Class<? extends RuntimeException> ROOM = UnsupportedOperationException.class;

    interface Call {
        long answer();
    }

    interface Deed {
        void run();
    }

    private int checked;
    private int wrong;

    void same(String what, long got, long want) {
        checked++;
        if (got != want) {
            complain(what + " answered " + got + ", due is " + want);
        }
    }

    void same(String what, String got, String want) {
        checked++;
        if (!got.equals(want)) {
            complain(what + " answered " + got + ", due is " + want);
        }
    }

    /** The very class is due: a class below it may be one that the machine throws. */
    void refused(String what, Class<? extends RuntimeException> want, Deed deed) {
        same(what, outcome(() -> {
            deed.run();
            return 0;
        }), want.getName());
    }

    static String outcome(Call call) {
        try {
            return Long.toString(call.answer());
        } catch (RuntimeException e) {
            return e.getClass().getName();
        }
    }

    private void complain(String text) {
        wrong++;
        if (wrong <= 20) {
            System.out.println(text);
        }
    }

    void end() {
        System.out.println(checked + " answers looked at, " + wrong + " not as due");
        if (wrong != 0 || checked == 0) {
            System.exit(1);
        }
    }

    /** All that a desk tells without being changed, as one text. */
    static String stateOf(StockDesk desk) {
        StringBuilder text = new StringBuilder();
        for (int what = 0; what < 4; what++) {
            text.append("count").append(desk.count(what)).append(" told").append(desk.told(what)).append(' ');
        }
        for (int part = 0; part < 6; part++) {
            text.append("worth").append(desk.worth(part)).append(' ');
        }
        for (int kind = 0; kind < 5; kind++) {
            int k = kind;
            text.append("made").append(desk.numbers(kind, 0)).append(" there").append(desk.numbers(kind, 1)).append(' ');
            for (int number = 1; number <= 9; number++) {
                int n = number;
                text.append(outcome(() -> desk.uses(k, n))).append(' ');
            }
        }
        return text.append("sums").append(desk.sums()).toString();
    }

    /** The state with what each part would answer for each number. */
    static String wholeOf(StockDesk desk) {
        StringBuilder text = new StringBuilder(stateOf(desk));
        for (int part = 0; part < 6; part++) {
            int p = part;
            for (int number = 1; number <= 9; number++) {
                int n = number;
                text.append(' ').append(outcome(() -> desk.again(p, n, 7)));
            }
        }
        return text.toString();
    }

    /** A desk with sixty acts, the thing 1 of kind 0 among them. */
    static StockDesk fullDesk() {
        StockDesk desk = new StockDesk();
        desk.make(0);
        for (int i = 1; i < 60; i++) {
            desk.collect(i);
        }
        return desk;
    }
}

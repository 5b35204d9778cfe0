import java.util.NoSuchElementException;
import java.util.function.Consumer;
import java.util.function.LongSupplier;
import java.util.function.ObjIntConsumer;
import java.util.function.Supplier;

/** What every test shares: it compares, prints what is not as due, and ends with exit code 1 if anything was not. */
final class Due {
    static final Class<? extends RuntimeException> RANGE = IllegalArgumentException.class;
    static final Class<? extends RuntimeException> MISSING = NoSuchElementException.class;
    static final Class<? extends RuntimeException> STATE = IllegalStateException.class;
    static final Class<? extends RuntimeException> ROOM = UnsupportedOperationException.class;

    private final String heading;
    private String sentence = "";
    private int checked;
    private int wrong;

    Due(String heading) {
        this.heading = heading;
    }

    /** The test of one sentence. The words stand under the heading in DOC.md to the letter: DocumentTest looks. */
    void sentence(String words, Consumer<Due> test) {
        sentence = " \"" + words + "\"";
        int checkedBefore = checked;
        int wrongBefore = wrong;
        try {
            test.accept(this);
        } catch (RuntimeException e) {
            complain("the test was ended by " + e);
        }
        if (checked == checkedBefore) {
            complain("nothing was looked at");
        }
        System.out.println((wrong == wrongBefore ? "  holds" : "  does not hold") + sentence);
        sentence = "";
    }

    void same(String what, long got, long want) {
        checked++;
        if (got != want) {
            complain(what + " answered " + got + ", due is " + want);
        }
    }

    void same(String what, String got, String want) {
        checked++;
        if (!got.equals(want)) {
            complain(what + " answered " + got + ", due is " + want);
        }
    }

    /** The very class is due: a class below it may be one that the machine throws. */
    void thrown(String what, Class<? extends RuntimeException> want, LongSupplier call) {
        same(what, outcome(call), want.getName());
    }

    /** A refused call throws what is due, and leaves its desk like one that was never asked. */
    void refused(String what, Class<? extends RuntimeException> want, Supplier<StockDesk> maker,
            Consumer<StockDesk> call) {
        StockDesk asked = maker.get();
        thrown(what, want, () -> {
            call.accept(asked);
            return 0;
        });
        same("the desk behind " + what, Look.whole(asked), Look.whole(maker.get()));
    }

    /** The two numbers just outside a range are refused, and the two farthest. */
    void refusedOutside(int least, int greatest, String what, Supplier<StockDesk> maker,
            ObjIntConsumer<StockDesk> call) {
        for (int value : new int[] {least - 1, greatest + 1, Integer.MIN_VALUE, Integer.MAX_VALUE}) {
            refused(what + " with " + value, RANGE, maker, desk -> call.accept(desk, value));
        }
    }

    void tells(String when, StockDesk desk, int many, int way, int part, int number) {
        same(when + ": told how many", desk.told(0), many);
        same(when + ": told the way", desk.told(1), way);
        same(when + ": told the part", desk.told(2), part);
        same(when + ": told the number", desk.told(3), number);
    }

    static String outcome(LongSupplier call) {
        try {
            return Long.toString(call.getAsLong());
        } catch (RuntimeException e) {
            return e.getClass().getName();
        }
    }

    private void complain(String text) {
        wrong++;
        if (wrong <= 20) {
            System.out.println(heading + sentence + ": " + text);
        }
    }

    void end() {
        System.out.println(heading + ": " + checked + " answers looked at, " + wrong + " not as due");
        if (wrong != 0 || checked == 0) {
            System.exit(1);
        }
    }
}

import java.util.NoSuchElementException;

/** The face of a house: it refuses what the document refuses, keeps the acts and lets the house do them. */
public final class StockDesk {
    private static final int KINDS = 5;
    private static final int THINGS = 9;
    private static final int PARTS = 6;
    private static final int WAYS = 4;
    private static final int BYTES = 256;
    private static final int ACTS = 60;
    private static final int AMOUNT_LIMIT = 1000000;
    private static final int SUM_MODULUS = 65521;
    private static final int SUM_SHIFT = 65536;

    private static final int MAKING = 0;
    private static final int DROPPING = 1;
    private static final int SERVING = 2;
    private static final int ANSWERING = 3;
    private static final int FAILING = 4;
    private static final int CALLING = 5;
    private static final int COLLECTING = 6;

    private final ActRow acts;
    private final House house;
    private final House secondHouse;

    public StockDesk() {
        acts = new ActRow();
        house = new House();
        secondHouse = new House();
    }

    public int make(int kind) throws IllegalArgumentException, UnsupportedOperationException {
        requireKind(kind);
        if (house.madeOf(kind) >= THINGS) {
            throw new UnsupportedOperationException("no room for another thing of this kind");
        }
        requireRoomForAct();
        return (int) doAndKeep(MAKING, kind, 0, 0);
    }

    public int drop(int kind, int number)
            throws NoSuchElementException, IllegalArgumentException, UnsupportedOperationException {
        requireKind(kind);
        requireThing(house, kind, number);
        requireRoomForAct();
        return (int) doAndKeep(DROPPING, kind, number, 0);
    }

    public void serves(int part, int kind) throws IllegalArgumentException, UnsupportedOperationException {
        requirePart(part);
        requireKind(kind);
        requireRoomForAct();
        doAndKeep(SERVING, part, kind, 0);
    }

    public void answers(int part, int base, int factor)
            throws IllegalArgumentException, UnsupportedOperationException {
        requirePart(part);
        requireAmount(base);
        requireAmount(factor);
        requireRoomForAct();
        doAndKeep(ANSWERING, part, base, factor);
    }

    public int fails(int part, int way) throws IllegalArgumentException, UnsupportedOperationException {
        requirePart(part);
        requireBelow(way, WAYS);
        requireRoomForAct();
        return (int) doAndKeep(FAILING, part, way, 0);
    }

    public long call(int part, int number, int a)
            throws IllegalArgumentException, NoSuchElementException, UnsupportedOperationException,
            IllegalStateException {
        requirePart(part);
        requireAmount(a);
        requireThing(house, house.kindOf(part), number);
        requireRoomForAct();
        boolean failing = house.isFailing(part);
        long answer = doAndKeep(CALLING, part, number, a);
        if (failing) {
            throw new IllegalStateException("the part failed");
        }
        return answer;
    }

    public long again(int part, int number, int a)
            throws IllegalArgumentException, NoSuchElementException, IllegalStateException {
        requirePart(part);
        requireAmount(a);
        acts.doAllOn(secondHouse);
        requireThing(secondHouse, secondHouse.kindOf(part), number);
        if (secondHouse.isFailing(part)) {
            throw new IllegalStateException("the part would fail");
        }
        return secondHouse.answerOf(part, number, a);
    }

    public int collect(int b) throws IllegalArgumentException, UnsupportedOperationException {
        requireBelow(b, BYTES);
        requireRoomForAct();
        return (int) doAndKeep(COLLECTING, b, 0, 0);
    }

    public long sums() {
        return house.bothSums();
    }

    public int back() throws IllegalStateException {
        if (acts.size() == 0) {
            throw new IllegalStateException("there is no act to take back");
        }
        acts.removeLatest();
        acts.doAllOn(house);
        return acts.size();
    }

    public int told(int what) throws IllegalArgumentException {
        switch (what) {
            case 0:
                return house.failures;
            case 1:
                return house.toldWay;
            case 2:
                return house.toldPart;
            case 3:
                return house.toldNumber;
            default:
                throw new IllegalArgumentException("nothing else is told");
        }
    }

    public long worth(int part) throws IllegalArgumentException {
        requirePart(part);
        return house.worthOf(part);
    }

    public int uses(int kind, int number) throws NoSuchElementException, IllegalArgumentException {
        requireKind(kind);
        requireThing(house, kind, number);
        return house.usesOf(kind, number);
    }

    public int numbers(int kind, int what) throws IllegalArgumentException {
        requireKind(kind);
        requireBelow(what, 2);
        return what == 0 ? house.madeOf(kind) : house.thereOf(kind);
    }

    public int count(int what) {
        switch (what) {
            case 0:
                return acts.size();
            case 1:
                return house.thereOfAll();
            case 2:
                return house.collected;
            case 3:
                return house.answered;
            default:
                return -1;
        }
    }

    /** The only way in which this house changes forward, so that the row always tells the whole house. */
    private long doAndKeep(int act, int x, int y, int z) {
        acts.keep(act, x, y, z);
        return house.perform(act, x, y, z);
    }

    private void requireRoomForAct() {
        if (acts.size() >= ACTS) {
            throw new UnsupportedOperationException("no room for another act");
        }
    }

    private static void requireKind(int kind) {
        requireBelow(kind, KINDS);
    }

    private static void requirePart(int part) {
        requireBelow(part, PARTS);
    }

    private static void requireBelow(int value, int bound) {
        if (value < 0 || value >= bound) {
            throw new IllegalArgumentException("a number is outside its range");
        }
    }

    private static void requireAmount(int amount) {
        if (amount < -AMOUNT_LIMIT || amount > AMOUNT_LIMIT) {
            throw new IllegalArgumentException("an amount is outside its range");
        }
    }

    private static void requireThing(House where, int kind, int number) {
        if (!where.hasThing(kind, number)) {
            throw new NoSuchElementException("there is no such thing");
        }
    }

    /** The acts in their order, each with up to three numbers. */
    private static final class ActRow {
        private final int[] kept = new int[ACTS];
        private final int[] xs = new int[ACTS];
        private final int[] ys = new int[ACTS];
        private final int[] zs = new int[ACTS];
        private int size;

        int size() {
            return size;
        }

        void keep(int act, int x, int y, int z) {
            if (size >= ACTS) {
                return;
            }
            kept[size] = act;
            xs[size] = x;
            ys[size] = y;
            zs[size] = z;
            size++;
        }

        void removeLatest() {
            if (size > 0) {
                size--;
            }
        }

        void doAllOn(House target) {
            target.clear();
            for (int i = 0; i < size; i++) {
                target.perform(kept[i], xs[i], ys[i], zs[i]);
            }
        }
    }

    /** The state of a house and what acts do to it. It is handed only what the desk has not refused. */
    private static final class House {
        private final int[] made = new int[KINDS];
        private final boolean[] there = new boolean[KINDS * THINGS];
        private final int[] thingUses = new int[KINDS * THINGS];
        private final int[] partKind = new int[PARTS];
        private final int[] partBase = new int[PARTS];
        private final int[] partFactor = new int[PARTS];
        private final int[] partWay = new int[PARTS];
        private final long[] partWorth = new long[PARTS];
        private int failures;
        private int toldWay;
        private int toldPart;
        private int toldNumber;
        private int answered;
        private int collected;
        private int sumOne;
        private int sumTwo;

        House() {
            clear();
        }

        void clear() {
            clearThings();
            clearParts();
            failures = 0;
            toldWay = 0;
            toldPart = -1;
            toldNumber = -1;
            answered = 0;
            collected = 0;
            sumOne = 1;
            sumTwo = 0;
        }

        private void clearThings() {
            for (int kind = 0; kind < KINDS; kind++) {
                made[kind] = 0;
            }
            for (int slot = 0; slot < KINDS * THINGS; slot++) {
                there[slot] = false;
                thingUses[slot] = 0;
            }
        }

        private void clearParts() {
            for (int part = 0; part < PARTS; part++) {
                partKind[part] = part % KINDS;
                partBase[part] = 0;
                partFactor[part] = 0;
                partWay[part] = 0;
                partWorth[part] = 0;
            }
        }

        long perform(int act, int x, int y, int z) {
            switch (act) {
                case MAKING:
                    return addThing(x);
                case DROPPING:
                    return removeThing(x, y);
                case SERVING:
                    return setKind(x, y);
                case ANSWERING:
                    return setAnswer(x, y, z);
                case FAILING:
                    return setWay(x, y);
                case CALLING:
                    return answerCall(x, y, z);
                case COLLECTING:
                    return addByte(x);
                default:
                    return 0;
            }
        }

        private int addThing(int kind) {
            made[kind]++;
            there[slotOf(kind, made[kind])] = true;
            return made[kind];
        }

        private int removeThing(int kind, int number) {
            there[slotOf(kind, number)] = false;
            return thingUses[slotOf(kind, number)];
        }

        private int setKind(int part, int kind) {
            int before = partKind[part];
            partKind[part] = kind;
            return before;
        }

        private int setAnswer(int part, int base, int factor) {
            partBase[part] = base;
            partFactor[part] = factor;
            return 0;
        }

        private int setWay(int part, int way) {
            int before = partWay[part];
            partWay[part] = way;
            return before;
        }

        /** A failure undoes all its part did in the call, so a failing part's work is not begun. */
        private long answerCall(int part, int number, int a) {
            if (isFailing(part)) {
                tellFailure(part, number);
                return 0;
            }
            long answer = answerOf(part, number, a);
            thingUses[slotOf(partKind[part], number)]++;
            partWorth[part] += a;
            answered++;
            return answer;
        }

        private void tellFailure(int part, int number) {
            failures++;
            toldWay = partWay[part];
            toldPart = part;
            toldNumber = number;
        }

        private int addByte(int b) {
            sumOne = (sumOne + b) % SUM_MODULUS;
            sumTwo = (sumTwo + sumOne) % SUM_MODULUS;
            collected++;
            return collected;
        }

        long answerOf(int part, int number, int a) {
            return partBase[part] + (long) partFactor[part] * a + number + partWorth[part];
        }

        boolean isFailing(int part) {
            return partWay[part] != 0;
        }

        int kindOf(int part) {
            return partKind[part];
        }

        long worthOf(int part) {
            return partWorth[part];
        }

        boolean hasThing(int kind, int number) {
            return number >= 1 && number <= THINGS && there[slotOf(kind, number)];
        }

        int usesOf(int kind, int number) {
            return thingUses[slotOf(kind, number)];
        }

        int madeOf(int kind) {
            return made[kind];
        }

        int thereOf(int kind) {
            int found = 0;
            for (int number = 1; number <= made[kind]; number++) {
                if (there[slotOf(kind, number)]) {
                    found++;
                }
            }
            return found;
        }

        int thereOfAll() {
            int found = 0;
            for (int kind = 0; kind < KINDS; kind++) {
                found += thereOf(kind);
            }
            return found;
        }

        long bothSums() {
            return (long) sumTwo * SUM_SHIFT + sumOne;
        }

        private static int slotOf(int kind, int number) {
            return kind * THINGS + number - 1;
        }
    }
}

import java.util.Arrays;

/**
 * What refused calls answer, and that what is refused changes nothing: every call with all wrong
 * arguments at all places, alone and together; then each STATE and each FULL by itself.
 */
public final class BasisMovesRefusalsTest {
    private static final int MIN = Integer.MIN_VALUE;
    private static final int MAX = Integer.MAX_VALUE;
    private static final int UNKNOWN = -1;
    private static final int OUTSIDE = -2;
    private static final int STATE = -3;
    private static final int FULL = -4;
    private static final Checks CHECKS = new Checks();
    private static final String RICH = Checks.state(rich());

    /** Arguments of one kind: what is refused when one is wrong, some good ones, some wrong ones. */
    private enum Kind {
        SLOT(UNKNOWN, new int[] {0, 1, 5, 7}, new int[] {-1, 8, MIN, MAX, 1 << 28}),
        BASE(UNKNOWN, new int[] {0, 4}, new int[] {-1, 5, MIN, MAX}),
        PARTITION(UNKNOWN, new int[] {0, 29}, new int[] {-1, 30, MIN, MAX, 1 << 30}),
        PART(OUTSIDE, new int[] {0, 5}, new int[] {-1, 6, MIN, MAX}),
        ABOUT(OUTSIDE, new int[] {0, 4}, new int[] {-1, 5, MIN, MAX}),
        FACTOR(OUTSIDE, new int[] {-1000, 1000}, new int[] {-1001, 1001, MIN, MAX}),
        UPPER_LOWER(OUTSIDE, new int[] {0, 1}, new int[] {-1, 2, MIN, MAX}),
        FROM(OUTSIDE, new int[] {0, 30}, new int[] {-1, 31, MIN, MAX}),
        PLACE(OUTSIDE, new int[] {-9, 9}, new int[] {-10, 10, MIN, MAX}),
        IMAGE(OUTSIDE, new int[] {0, 1}, new int[] {-1, 2, MIN, MAX, 1 << 29}),
        COUNT(OUTSIDE, new int[] {0, 1, 10, 16, 20, 26}, new int[] {-1, 2, 3, 4, 5, 6, 7, 8, 9, 17, 18, 19, 27,
            28, 29, 30, -10, -16, -20, MIN, MAX});

        private final int refusal;
        private final int[] good;
        private final int[] bad;

        Kind(int refusal, int[] good, int[] bad) {
            this.refusal = refusal;
            this.good = good;
            this.bad = bad;
        }

        private boolean isBad(int value) {
            return Arrays.stream(bad).anyMatch(one -> one == value);
        }

        private int[] all() {
            int[] all = Arrays.copyOf(good, good.length + bad.length);
            System.arraycopy(bad, 0, all, good.length, bad.length);
            return all;
        }
    }

    /** A call with its arguments in a row. */
    private interface Method {
        long on(BasisMoves x, int[] v);
    }

    private BasisMovesRefusalsTest() {
    }

    public static void main(String[] args) {
        wrongArguments();
        stateOfPlug();
        stateOfRestore();
        fullPut();
        fullAdd();
        fullTimes();
        fullTurn();
        fullStrip();
        fullMeet();
        fullPlug();
        firstThatFits();
        refusedOnNewObject();
        CHECKS.end();
    }

    /** Slots of all sizes, the edges among them, and two images that are unlike them. */
    private static BasisMoves rich() {
        BasisMoves x = new BasisMoves();
        x.put(0, 0, 7, 3);
        x.put(6, 3, 3, -4);
        x.image(0);
        x.put(6, 0, 0, 0);
        x.put(2, 4, 8, 5);
        x.image(1);
        x.put(0, 4, 5, 1);
        CHECKS.plus(x, 1, 0, 0, 100000);
        CHECKS.plus(x, 1, 0, 29, -100000);
        x.put(2, 0, 0, 7);
        CHECKS.plus(x, 3, 0, 1, 1001);
        x.put(4, 0, 2, 10);
        x.put(5, 0, 3, -9);
        CHECKS.plus(x, 5, 0, 19, 1);
        x.put(7, 0, 1, 1);
        return x;
    }

    /** The answer of a call that is refused, and that all is as it was. */
    private static void refused(String call, int refusal, Checks.Call made) {
        BasisMoves x = rich();
        CHECKS.due(call, made.on(x), refusal);
        CHECKS.same("after " + call + " the state", Checks.state(x), RICH);
    }

    private static void wrongArguments() {
        CHECKS.sentence("UNKNOWN -1 (no such SLOT, BASE, PARTITION), OUTSIDE -2 (another number is not as told)");
        Kind slot = Kind.SLOT;
        Kind base = Kind.BASE;
        Kind partition = Kind.PARTITION;
        all("part", 0, (x, v) -> x.part(v[0], v[1]), partition, Kind.PART);
        all("about", 0, (x, v) -> x.about(v[0], v[1]), partition, Kind.ABOUT);
        all("kostka", 0, (x, v) -> x.kostka(v[0], v[1]), partition, partition);
        all("character", 0, (x, v) -> x.character(v[0], v[1]), partition, partition);
        all("above", 0, (x, v) -> x.above(v[0], v[1]), partition, partition);
        all("put", 0, (x, v) -> x.put(v[0], v[1], v[2], v[3]), slot, base, partition, Kind.FACTOR);
        all("add", 0, (x, v) -> x.add(v[0], v[1], v[2]), slot, slot, Kind.FACTOR);
        all("degree", 0, (x, v) -> x.degree(v[0]), slot);
        all("coefficient", Checks.GONE, (x, v) -> x.coefficient(v[0], v[1], v[2], v[3]), slot, base, partition,
                Kind.UPPER_LOWER);
        all("next", 0, (x, v) -> x.next(v[0], v[1], v[2]), slot, base, Kind.FROM);
        all("value", Checks.GONE, (x, v) -> x.value(v[0], v[1], v[2], v[3]), slot, Kind.PLACE, Kind.PLACE,
                Kind.PLACE);
        all("scalar", Checks.GONE, (x, v) -> x.scalar(v[0], v[1]), slot, slot);
        all("times", 0, (x, v) -> x.times(v[0], v[1], v[2]), slot, slot, slot);
        all("turn", 0, (x, v) -> x.turn(v[0], v[1]), slot, slot);
        all("strip", 0, (x, v) -> x.strip(v[0], v[1], v[2]), slot, slot, slot);
        all("meet", 0, (x, v) -> x.meet(v[0], v[1], v[2]), slot, slot, slot);
        all("plug", 0, (x, v) -> x.plug(v[0], v[1], v[2]), slot, slot, slot);
        all("image", 0, (x, v) -> x.image(v[0]), Kind.IMAGE);
        all("restore", 0, (x, v) -> x.restore(v[0]), Kind.IMAGE);
        all("count", 0, (x, v) -> x.count(v[0]), Kind.COUNT);
    }

    /** All rows of arguments at least one of which is wrong, a hundred of them on one object. */
    private static void all(String name, long gone, Method method, Kind... kinds) {
        int rows = 1;
        for (Kind kind : kinds) {
            rows *= kind.all().length;
        }
        BasisMoves x = rich();
        int made = 0;
        for (int row = 0; row < rows; row++) {
            int[] values = new int[kinds.length];
            int refusal = rowOf(row, kinds, values);
            if (refusal != 0) {
                CHECKS.due(name + Arrays.toString(values), method.on(x, values), gone + refusal);
                made++;
            }
            if (made == 100 || row == rows - 1) {
                CHECKS.same("after wrong calls of " + name + " the state", Checks.state(x), RICH);
                x = rich();
                made = 0;
            }
        }
    }

    /** Fills in the arguments of a row and tells what is due: the first refusal that fits; 0: none. */
    private static int rowOf(int row, Kind[] kinds, int[] values) {
        int rest = row;
        int refusal = 0;
        for (int i = 0; i < kinds.length; i++) {
            int[] all = kinds[i].all();
            values[i] = all[rest % all.length];
            rest /= all.length;
            if (kinds[i].isBad(values[i])) {
                refusal = refusal == UNKNOWN ? UNKNOWN : kinds[i].refusal;
            }
        }
        return refusal;
    }

    private static void stateOfPlug() {
        CHECKS.sentence("STATE: a WEIGHT of a is below -1000 or above 1000, or one of b below -9 or above 9");
        for (int to = 0; to < 8; to++) {
            int into = to;
            refused("plug(" + to + ", 3, 7), 1001 in the first", STATE, x -> x.plug(into, 3, 7));
            refused("plug(" + to + ", 1, 7), 100000 in the first", STATE, x -> x.plug(into, 1, 7));
            refused("plug(" + to + ", 7, 4), 10 in the second", STATE, x -> x.plug(into, 7, 4));
            refused("plug(" + to + ", 7, 1), 100000 in the second", STATE, x -> x.plug(into, 7, 1));
            refused("plug(" + to + ", 3, 3), the same", STATE, x -> x.plug(into, 3, 3));
        }
        refused("plug(0, 6, 4), 0 with 10", STATE, x -> x.plug(0, 6, 4));
        refused("plug(0, 2, 4), a number with 10", STATE, x -> x.plug(0, 2, 4));
        refused("plug(0, 3, 6), 1001 with 0", STATE, x -> x.plug(0, 3, 6));
        refused("plug(0, 3, 2), 1001 with a number", STATE, x -> x.plug(0, 3, 2));
    }

    private static void stateOfRestore() {
        CHECKS.sentence("OUTSIDE; STATE: nothing was kept in it");
        for (int k = 0; k < 2; k++) {
            BasisMoves x = new BasisMoves();
            CHECKS.due("put", x.put(3, 4, 24, 6), 1);
            CHECKS.due("image", x.image(1 - k), 1);
            CHECKS.due("put", x.put(4, 4, 23, 7), 1);
            String before = Checks.slots(x);
            CHECKS.due("restore(" + k + ")", x.restore(k), STATE);
            CHECKS.same("the slots", Checks.slots(x), before);
            CHECKS.due("count(1)", x.count(1), k == 0 ? 2 : 1);
            CHECKS.due("image(" + k + ")", x.image(k), 1);
            CHECKS.due("restore(" + k + "), kept by now", x.restore(k), 1);
            CHECKS.same("the slots", Checks.slots(x), before);
        }
    }

    private static void fullPut() {
        CHECKS.sentence("put .. UNKNOWN: the SLOT, the BASE, the PARTITION; OUTSIDE; FULL");
        for (int base = 1; base <= 3; base++) {
            for (int n : new int[] {139, -139, 1000, -1000}) {
                for (int to : new int[] {0, 1, 6}) {
                    int of = base;
                    refused("put(" + to + ", " + base + ", 29, " + n + ")", FULL, x -> x.put(to, of, 29, n));
                }
            }
        }
    }

    private static void fullAdd() {
        CHECKS.sentence("add .. UNKNOWN: both; OUTSIDE; FULL");
        refused("add(1, 1, 1)", FULL, x -> x.add(1, 1, 1));
        refused("add(1, 1, -3)", FULL, x -> x.add(1, 1, -3));
        refused("add(1, 1, 1000)", FULL, x -> x.add(1, 1, 1000));
        refused("add(1, 2, 1), 100007", FULL, x -> x.add(1, 2, 1));
        refused("add(0, 1, 2)", FULL, x -> x.add(0, 1, 2));
        refused("add(6, 1, -2), to 0", FULL, x -> x.add(6, 1, -2));
        refused("add(6, 3, 100), 100100", FULL, x -> x.add(6, 3, 100));
        refused("add(6, 3, -1000)", FULL, x -> x.add(6, 3, -1000));
    }

    private static void fullTimes() {
        CHECKS.sentence("FULL: neither is 0 and their DEGREES together are above 6; or a WEIGHT would be too great");
        for (int to = 0; to < 8; to++) {
            int into = to;
            refused("times(" + to + ", 5, 7), degrees 6 and 1", FULL, x -> x.times(into, 5, 7));
            refused("times(" + to + ", 7, 5), degrees 1 and 6", FULL, x -> x.times(into, 7, 5));
            refused("times(" + to + ", 5, 5), degrees 6 and 6", FULL, x -> x.times(into, 5, 5));
            refused("times(" + to + ", 2, 1), 700000", FULL, x -> x.times(into, 2, 1));
            refused("times(" + to + ", 3, 3), 1002001", FULL, x -> x.times(into, 3, 3));
        }
    }

    private static void fullTurn() {
        CHECKS.sentence("turn .. UNKNOWN: both; FULL");
        for (int to = 0; to < 8; to++) {
            BasisMoves x = rich();
            // 50000 m(1 1) - 50001 m(2), turned: 100001 m(2) + 50000 m(1 1)
            CHECKS.due("put", x.put(4, 0, 0, 0), 1);
            CHECKS.plus(x, 4, 0, 3, 50000);
            CHECKS.plus(x, 4, 0, 2, -50001);
            String before = Checks.slots(x);
            CHECKS.due("turn(" + to + ", 4)", x.turn(to, 4), FULL);
            CHECKS.same("after turn(" + to + ", 4) the slots", Checks.slots(x), before);
        }
    }

    private static void fullStrip() {
        CHECKS.sentence("strip .. UNKNOWN: all three; FULL");
        for (int to = 0; to < 8; to++) {
            int into = to;
            refused("strip(" + to + ", 1, 1)", FULL, x -> x.strip(into, 1, 1));
            refused("strip(" + to + ", 2, 1), 700000", FULL, x -> x.strip(into, 2, 1));
            refused("strip(" + to + ", 3, 3), 1002001", FULL, x -> x.strip(into, 3, 3));
        }
    }

    private static void fullMeet() {
        CHECKS.sentence("meet .. UNKNOWN: all three; FULL");
        for (int to = 0; to < 8; to++) {
            int into = to;
            refused("meet(" + to + ", 1, 1)", FULL, x -> x.meet(into, 1, 1));
            refused("meet(" + to + ", 2, 1), 700000", FULL, x -> x.meet(into, 2, 1));
            refused("meet(" + to + ", 3, 3), 1002001", FULL, x -> x.meet(into, 3, 3));
        }
    }

    private static void fullPlug() {
        CHECKS.sentence("FULL: both have a DEGREE above 0 and one DEGREE times the other one is above 6; "
                + "or a WEIGHT would be too great");
        for (int to = 0; to < 8; to++) {
            int into = to;
            refused("plug(" + to + ", 5, 0), degrees 6 and 3", FULL, x -> x.plug(into, 5, 0));
            refused("plug(" + to + ", 0, 5), degrees 3 and 6", FULL, x -> x.plug(into, 0, 5));
            refused("plug(" + to + ", 0, 0), degrees 3 and 3", FULL, x -> x.plug(into, 0, 0));
            refused("plug(" + to + ", 5, 5), degrees 6 and 6", FULL, x -> x.plug(into, 5, 5));
            BasisMoves x = rich();
            // 100 times h(6), plugged with 7: 92400; 110 times it: 101640
            CHECKS.due("put", x.put(4, 2, 19, 110), 1);
            String before = Checks.slots(x);
            CHECKS.due("plug(" + to + ", 4, 2), 101640", x.plug(to, 4, 2), FULL);
            CHECKS.same("after plug(" + to + ", 4, 2) the slots", Checks.slots(x), before);
            CHECKS.due("put", x.put(4, 2, 19, 100), 1);
            CHECKS.due("plug(" + to + ", 4, 2), 92400", x.plug(to, 4, 2), 1);
            CHECKS.same("what is held", Checks.weights(x, to), "0:92400 ");
        }
    }

    private static void firstThatFits() {
        CHECKS.sentence("Calls that are refused answer the first of these that fits");
        refused("put(8, 2, 29, 1001), all but STATE", UNKNOWN, x -> x.put(8, 2, 29, 1001));
        refused("put(0, 5, 29, 1001)", UNKNOWN, x -> x.put(0, 5, 29, 1001));
        refused("put(0, 2, 30, 1001)", UNKNOWN, x -> x.put(0, 2, 30, 1001));
        refused("put(0, 2, 29, 1001), OUTSIDE and FULL", OUTSIDE, x -> x.put(0, 2, 29, 1001));
        refused("put(8, 2, 29, 139), UNKNOWN and FULL", UNKNOWN, x -> x.put(8, 2, 29, 139));
        refused("add(1, 8, 1001)", UNKNOWN, x -> x.add(1, 8, 1001));
        refused("add(8, 1, -1001)", UNKNOWN, x -> x.add(8, 1, -1001));
        refused("add(1, 1, 1001), OUTSIDE and FULL", OUTSIDE, x -> x.add(1, 1, 1001));
        refused("add(1, 1, -1001), OUTSIDE and FULL", OUTSIDE, x -> x.add(1, 1, -1001));
        refused("times(8, 5, 5), UNKNOWN and FULL", UNKNOWN, x -> x.times(8, 5, 5));
        refused("strip(-1, 1, 1), UNKNOWN and FULL", UNKNOWN, x -> x.strip(-1, 1, 1));
        refused("meet(8, 1, 1), UNKNOWN and FULL", UNKNOWN, x -> x.meet(8, 1, 1));
        refused("plug(8, 3, 7), UNKNOWN and STATE", UNKNOWN, x -> x.plug(8, 3, 7));
        refused("plug(8, 0, 0), UNKNOWN and FULL", UNKNOWN, x -> x.plug(8, 0, 0));
        refused("plug(0, 1, 0), STATE and FULL", STATE, x -> x.plug(0, 1, 0));
        refused("plug(0, 0, 4), STATE, degrees 3 and 2", STATE, x -> x.plug(0, 0, 4));
        refused("plug(0, 5, 4), STATE and FULL", STATE, x -> x.plug(0, 5, 4));
        refused("plug(0, 1, 1), STATE of both and FULL", STATE, x -> x.plug(0, 1, 1));
    }

    private static void refusedOnNewObject() {
        CHECKS.sentence("What is refused changes nothing (of a new object)");
        String fresh = Checks.state(new BasisMoves());
        BasisMoves x = new BasisMoves();
        CHECKS.due("restore(0)", x.restore(0), STATE);
        CHECKS.due("restore(1)", x.restore(1), STATE);
        CHECKS.due("image(2)", x.image(2), OUTSIDE);
        CHECKS.due("image(-1)", x.image(-1), OUTSIDE);
        CHECKS.due("put(0, 2, 29, 139)", x.put(0, 2, 29, 139), FULL);
        CHECKS.due("put(7, 1, 29, -139)", x.put(7, 1, 29, -139), FULL);
        CHECKS.due("put(7, 0, 0, -1001)", x.put(7, 0, 0, -1001), OUTSIDE);
        CHECKS.due("put(8, 0, 0, 1)", x.put(8, 0, 0, 1), UNKNOWN);
        CHECKS.due("add(0, 1, 1001)", x.add(0, 1, 1001), OUTSIDE);
        CHECKS.same("the state", Checks.state(x), fresh);
        CHECKS.same("which", fresh, "[] [] [] [] [] [] [] [] filled 0 images 0"
                + " image 0: -3 [] [] [] [] [] [] [] []  image 1: -3 [] [] [] [] [] [] [] [] ");
    }
}

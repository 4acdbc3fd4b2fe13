/**
 * "What a SLOT is made to hold is worked out first, by what SLOTS hold till then (they may be the
 * same ones)": each call with its slots the same in every way, against the call into a slot apart.
 */
public final class BasisMovesSameSlotsTest {
    private static final Checks CHECKS = new Checks();
    private static final int APART = 5;
    private static final String[] WORK = {"times", "strip", "meet", "plug"};

    private BasisMovesSameSlotsTest() {
    }

    public static void main(String[] args) {
        workOfThree();
        turnOfTwo();
        addOfTwo();
        scalarOfTwo();
        byHand();
        CHECKS.end();
    }

    /** Three unlike sums of degrees 2, 1 and 2, so that all work is done and none is refused. */
    private static BasisMoves three() {
        BasisMoves x = new BasisMoves();
        CHECKS.plus(x, 0, 0, 2, 2);
        CHECKS.plus(x, 0, 0, 3, -3);
        CHECKS.plus(x, 0, 0, 0, 1);
        CHECKS.plus(x, 1, 0, 1, 4);
        CHECKS.plus(x, 1, 0, 0, -2);
        CHECKS.plus(x, 2, 4, 3, 3);
        CHECKS.plus(x, 2, 4, 1, -1);
        return x;
    }

    private static long work(BasisMoves x, int kind, int to, int a, int b) {
        switch (kind) {
            case 0: return x.times(to, a, b);
            case 1: return x.strip(to, a, b);
            case 2: return x.meet(to, a, b);
            default: return x.plug(to, a, b);
        }
    }

    /** Slot "to" holds what the other object holds apart, and the other slots what they held. */
    private static void isAs(String call, BasisMoves x, int to, BasisMoves apart) {
        BasisMoves before = three();
        for (int slot = 0; slot < 8; slot++) {
            String due = slot == to ? Checks.weights(apart, APART) : Checks.weights(before, slot);
            CHECKS.same("after " + call + " slot " + slot, Checks.weights(x, slot), due);
        }
    }

    private static void workOfThree() {
        CHECKS.sentence("worked out first, by what SLOTS hold till then (they may be the same ones): of three");
        for (int kind = 0; kind < WORK.length; kind++) {
            for (int slots = 0; slots < 27; slots++) {
                int to = slots / 9;
                int a = slots / 3 % 3;
                int b = slots % 3;
                String call = WORK[kind] + "(" + to + ", " + a + ", " + b + ")";
                BasisMoves x = three();
                BasisMoves apart = three();
                CHECKS.due(call, work(x, kind, to, a, b), 1);
                CHECKS.due(call + ", apart", work(apart, kind, APART, a, b), 1);
                isAs(call, x, to, apart);
            }
        }
    }

    private static void turnOfTwo() {
        CHECKS.sentence("worked out first, by what SLOTS hold till then (they may be the same ones): turn");
        for (int slots = 0; slots < 9; slots++) {
            String call = "turn(" + slots / 3 + ", " + slots % 3 + ")";
            BasisMoves x = three();
            BasisMoves apart = three();
            CHECKS.due(call, x.turn(slots / 3, slots % 3), 1);
            CHECKS.due(call + ", apart", apart.turn(APART, slots % 3), 1);
            isAs(call, x, slots / 3, apart);
        }
    }

    private static void addOfTwo() {
        CHECKS.sentence("n times what another one (or the same) holds: add");
        for (int slots = 0; slots < 9; slots++) {
            for (int n : new int[] {-1000, -1, 0, 1, 3, 1000}) {
                String call = "add(" + slots / 3 + ", " + slots % 3 + ", " + n + ")";
                BasisMoves x = three();
                BasisMoves apart = three();
                CHECKS.due(call, x.add(slots / 3, slots % 3, n), 1);
                CHECKS.due(call + ", apart", apart.add(APART, slots / 3, 1), 1);
                CHECKS.due(call + ", apart", apart.add(APART, slots % 3, n), 1);
                isAs(call, x, slots / 3, apart);
            }
        }
    }

    private static void scalarOfTwo() {
        CHECKS.sentence("SCALAR of what two SLOTS hold (the same one)");
        BasisMoves x = three();
        // 1 + 2 m(2) - 3 m(1 1) = s(0) + 2 s(2) - 5 s(1 1)
        CHECKS.same("by base 4", Checks.numbers(x, 0, 4), "0:1 2:2 3:-5 ");
        CHECKS.due("scalar(0, 0)", x.scalar(0, 0), 30);
        CHECKS.due("scalar(0, 2)", x.scalar(0, 2), -15);
        CHECKS.due("scalar(2, 0)", x.scalar(2, 0), -15);
        CHECKS.due("scalar(2, 2)", x.scalar(2, 2), 10);
        CHECKS.due("scalar(1, 1)", x.scalar(1, 1), 20);
    }

    private static void byHand() {
        CHECKS.sentence("worked out first, by what SLOTS hold till then (they may be the same ones): by hand");
        BasisMoves x = three();
        // (4 m(1) - 2) times itself: 16 m(2) + 32 m(1 1) - 16 m(1) + 4
        CHECKS.due("times(1, 1, 1)", x.times(1, 1, 1), 1);
        CHECKS.same("what is held", Checks.weights(x, 1), "0:4 1:-16 2:16 3:32 ");
        x = three();
        // plugged with itself: 4 (4 m(1) - 2) - 2
        CHECKS.due("plug(1, 1, 1)", x.plug(1, 1, 1), 1);
        CHECKS.same("what is held", Checks.weights(x, 1), "0:-10 1:16 ");
        x = three();
        // stripped of itself: 4 s(1) - 2 off: of 1: 16 + 4, of s(1): -2 times 4
        CHECKS.due("strip(1, 1, 1)", x.strip(1, 1, 1), 1);
        CHECKS.same("what is held", Checks.weights(x, 1), "0:20 1:-8 ");
        x = three();
        CHECKS.due("meet(1, 1, 1)", x.meet(1, 1, 1), 1);
        CHECKS.same("what is held", Checks.weights(x, 1), "0:4 1:16 ");
        CHECKS.due("add(1, 1, 1)", x.add(1, 1, 1), 1);
        CHECKS.same("what is held", Checks.weights(x, 1), "0:8 1:32 ");
        CHECKS.due("add(1, 1, -1)", x.add(1, 1, -1), 1);
        CHECKS.same("what is held", Checks.weights(x, 1), "");
        // s(1 1) times 3 less s(1), turned in its place: 3 s(2) less s(1)
        CHECKS.due("turn(2, 2)", x.turn(2, 2), 1);
        CHECKS.same("by base 4", Checks.numbers(x, 2, 4), "1:-1 2:3 ");
    }
}

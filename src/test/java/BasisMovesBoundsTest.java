/**
 * The ranges that the document names, from their first number to their last one, and the bounds of
 * weights and degrees: what is just within them is done, what is just beyond is refused.
 */
public final class BasisMovesBoundsTest {
    private static final int OUTSIDE = -2;
    private static final int STATE = -3;
    private static final int FULL = -4;
    private static final int NONE = -6;
    private static final int[] STARTS = {0, 1, 2, 4, 7, 12, 19, 30};
    private static final Checks CHECKS = new Checks();

    private BasisMovesBoundsTest() {
    }

    public static void main(String[] args) {
        slotsBasesPartitions();
        placesOfParts();
        factors();
        froms();
        places();
        counts();
        imagesZeroAndOne();
        weightsOfPut();
        weightsOfAdd();
        weightsOfTimes();
        weightsOfTurn();
        weightsOfStrip();
        weightsOfMeet();
        weightsOfPlug();
        weightsAtEachPartition();
        stateOfPlugAtEachPartition();
        stateOfPlugByWeights();
        degreesOfTimes();
        degreesOfPlug();
        degreesThatHaveGone();
        leastNumbers();
        calls512();
        CHECKS.end();
    }

    /** n times m(a), in a slot of its own. */
    private static void hold(BasisMoves x, int slot, int a, int n) {
        CHECKS.due("put", x.put(slot, 0, 0, 0), 1);
        CHECKS.plus(x, slot, 0, a, n);
    }

    private static void slotsBasesPartitions() {
        CHECKS.sentence("SLOTS 0 to 7; BASES 0 to 4; PARTITIONS numbered from 0 to 29");
        BasisMoves x = new BasisMoves();
        for (int slot = 0; slot < 8; slot++) {
            for (int base = 0; base < 5; base++) {
                for (int a : new int[] {0, 1, 28, 29}) {
                    String call = "(" + slot + ", " + base + ", " + a + ")";
                    CHECKS.due("put" + call, x.put(slot, base, a, 1), 1);
                    CHECKS.due("next" + call, x.next(slot, base, a), a);
                    CHECKS.due("coefficient" + call, x.coefficient(slot, base, a, 0), 1);
                }
            }
        }
    }

    private static void placesOfParts() {
        CHECKS.sentence("The k-th PART of a PARTITION, k from 0 to 5; 0, if it has not so many");
        BasisMoves x = new BasisMoves();
        int[] six = {1, 1, 1, 1, 1, 1};
        int[] five = {2, 1, 1, 1, 1, 0};
        int[] one = {6, 0, 0, 0, 0, 0};
        for (int k = 0; k < 6; k++) {
            CHECKS.due("part(29, " + k + ")", x.part(29, k), six[k]);
            CHECKS.due("part(28, " + k + ")", x.part(28, k), five[k]);
            CHECKS.due("part(19, " + k + ")", x.part(19, k), one[k]);
            CHECKS.due("part(0, " + k + ")", x.part(0, k), 0);
        }
        for (int a : new int[] {0, 19, 28, 29}) {
            CHECKS.due("part(" + a + ", -1)", x.part(a, -1), OUTSIDE);
            CHECKS.due("part(" + a + ", 6)", x.part(a, 6), OUTSIDE);
        }
    }

    private static void factors() {
        CHECKS.sentence("n (-1000 to 1000) times");
        BasisMoves x = new BasisMoves();
        for (int n : new int[] {-1000, -999, -1, 0, 1, 999, 1000}) {
            String held = n == 0 ? "" : "4:" + n + " ";
            CHECKS.due("put(0, 0, 4, " + n + ")", x.put(0, 0, 4, n), 1);
            CHECKS.same("what is held", Checks.weights(x, 0), held);
            CHECKS.due("put(1, 0, 4, 1)", x.put(1, 0, 4, 1), 1);
            CHECKS.due("put(2, 0, 0, 0)", x.put(2, 0, 0, 0), 1);
            CHECKS.due("add(2, 1, " + n + ")", x.add(2, 1, n), 1);
            CHECKS.same("what is held", Checks.weights(x, 2), held);
        }
        String before = Checks.slots(x);
        for (int n : new int[] {-1001, 1001, -65536, 65536}) {
            CHECKS.due("put(0, 0, 4, " + n + ")", x.put(0, 0, 4, n), OUTSIDE);
            CHECKS.due("add(2, 1, " + n + ")", x.add(2, 1, n), OUTSIDE);
            CHECKS.due("add(2, 7, " + n + "), of 0", x.add(2, 7, n), OUTSIDE);
        }
        CHECKS.same("the slots", Checks.slots(x), before);
    }

    private static void froms() {
        CHECKS.sentence("the least PARTITION, from one on (0 to 30; of 30 there is none)");
        BasisMoves x = new BasisMoves();
        CHECKS.due("put(0, 0, 29, 5)", x.put(0, 0, 29, 5), 1);
        CHECKS.plus(x, 0, 0, 0, 5);
        for (int from = 0; from <= 30; from++) {
            int want = from == 0 ? 0 : from < 30 ? 29 : NONE;
            CHECKS.due("next(0, 0, " + from + ")", x.next(0, 0, from), want);
            CHECKS.due("next(0, 4, " + from + ")", x.next(0, 4, from), want);
            for (int base = 0; base < 5; base++) {
                CHECKS.due("next(1, " + base + ", " + from + "), of 0", x.next(1, base, from), NONE);
            }
        }
        for (int base = 0; base < 5; base++) {
            CHECKS.due("next(0, " + base + ", 0)", x.next(0, base, 0), 0);
            CHECKS.due("next(0, " + base + ", 30)", x.next(0, base, 30), NONE);
            CHECKS.due("next(0, " + base + ", 31)", x.next(0, base, 31), OUTSIDE);
            CHECKS.due("next(1, " + base + ", 31), of 0", x.next(1, base, 31), OUTSIDE);
            CHECKS.due("next(1, " + base + ", -1), of 0", x.next(1, base, -1), OUTSIDE);
        }
    }

    private static void places() {
        CHECKS.sentence("the first three variables are x, y, z (-9 to 9 each) and the others are 0");
        BasisMoves x = new BasisMoves();
        CHECKS.due("put(0, 0, 19, 1)", x.put(0, 0, 19, 1), 1);
        CHECKS.due("value(0, 9, 0, 0)", x.value(0, 9, 0, 0), 531441);
        CHECKS.due("value(0, 0, -9, 0)", x.value(0, 0, -9, 0), 531441);
        CHECKS.due("value(0, 9, -9, 9)", x.value(0, 9, -9, 9), 3 * 531441);
        CHECKS.due("value(0, 0, 0, 0)", x.value(0, 0, 0, 0), 0);
        CHECKS.due("put(1, 0, 12, 1)", x.put(1, 0, 12, 1), 1);
        CHECKS.due("value(1, -9, 0, 0)", x.value(1, -9, 0, 0), -59049);
        CHECKS.due("value(1, 9, 8, -9)", x.value(1, 9, 8, -9), 32768);
        CHECKS.due("put(2, 0, 6, 1)", x.put(2, 0, 6, 1), 1);
        CHECKS.due("value(2, 9, 9, 9), three variables", x.value(2, 9, 9, 9), 729);
        CHECKS.due("value(2, 9, 9, 0)", x.value(2, 9, 9, 0), 0);
        for (int a : new int[] {11, 17, 18, 25, 27, 28, 29}) {
            CHECKS.due("put(3, 0, " + a + ", 1000)", x.put(3, 0, a, 1000), 1);
            CHECKS.due("value(3, 9, 9, 9), more than three PARTS", x.value(3, 9, 9, 9), 0);
        }
        for (int no : new int[] {-10, 10}) {
            CHECKS.due("value(7, " + no + ", 0, 0)", x.value(7, no, 0, 0), Checks.GONE + OUTSIDE);
            CHECKS.due("value(7, 0, " + no + ", 0)", x.value(7, 0, no, 0), Checks.GONE + OUTSIDE);
            CHECKS.due("value(7, 0, 0, " + no + ")", x.value(7, 0, 0, no), Checks.GONE + OUTSIDE);
            CHECKS.due("value(8, " + no + ", 0, 0)", x.value(8, no, 0, 0), Checks.GONE - 1);
        }
    }

    private static void counts() {
        CHECKS.sentence("how many PARTITIONS have a DEGREE (10 to 16: DEGREES 0 to 6); the least PARTITION of a "
                + "DEGREE (20 to 26)");
        BasisMoves x = new BasisMoves();
        for (int what = -30; what <= 60; what++) {
            long want = what == 0 || what == 1 ? 0 : OUTSIDE;
            if (what >= 10 && what <= 16) {
                want = STARTS[what - 9] - STARTS[what - 10];
            } else if (what >= 20 && what <= 26) {
                want = STARTS[what - 20];
            }
            CHECKS.due("count(" + what + ")", x.count(what), want);
        }
        for (int degree = 0; degree <= 6; degree++) {
            int first = x.count(20 + degree);
            CHECKS.due("the degree of the first", x.about(first, 0), degree);
            CHECKS.due("the degree of the last", x.about(first + x.count(10 + degree) - 1, 0), degree);
            CHECKS.due("the first has one PART", x.part(first, 0), degree);
        }
    }

    private static void imagesZeroAndOne() {
        CHECKS.sentence("kept in an IMAGE (0, 1), in place of what was kept there .. the IMAGE stays");
        BasisMoves x = new BasisMoves();
        for (int k = 0; k < 2; k++) {
            for (int n = 1; n <= 3; n++) {
                CHECKS.due("put", x.put(7, 4, 24, 10 * k + n), 1);
                CHECKS.due("put", x.put(0, 3, 29, n), 1);
                CHECKS.due("image(" + k + ")", x.image(k), 1);
                CHECKS.due("count(1)", x.count(1), k == 0 ? 1 : 3);
            }
        }
        for (int turn = 0; turn < 3; turn++) {
            for (int k = 1; k >= 0; k--) {
                CHECKS.due("restore(" + k + ")", x.restore(k), 1);
                CHECKS.due("what was kept last", x.coefficient(7, 4, 24, 0), 10 * k + 3);
                CHECKS.due("what was kept last", x.coefficient(0, 3, 29, 0), 3);
                CHECKS.due("count(0)", x.count(0), 2);
                CHECKS.due("count(1)", x.count(1), 3);
                changeAll(x);
            }
        }
        CHECKS.due("image(-1)", x.image(-1), OUTSIDE);
        CHECKS.due("image(2)", x.image(2), OUTSIDE);
        CHECKS.due("restore(-1)", x.restore(-1), OUTSIDE);
        CHECKS.due("restore(2)", x.restore(2), OUTSIDE);
    }

    /** Each call that makes a slot hold something: an image must not be made to hold it too. */
    private static void changeAll(BasisMoves x) {
        CHECKS.due("add(7, 7, 1)", x.add(7, 7, 1), 1);
        CHECKS.due("turn(7, 7)", x.turn(7, 7), 1);
        CHECKS.due("put(0, 0, 1, 2)", x.put(0, 0, 1, 2), 1);
        CHECKS.due("times(1, 0, 0)", x.times(1, 0, 0), 1);
        CHECKS.due("strip(2, 0, 1)", x.strip(2, 0, 1), 1);
        CHECKS.due("meet(3, 0, 0)", x.meet(3, 0, 0), 1);
        CHECKS.due("plug(4, 1, 0)", x.plug(4, 1, 0), 1);
        CHECKS.due("times(7, 0, 1)", x.times(7, 0, 1), 1);
    }

    /** The greatest weight of the last member of each base, and what n makes of it. */
    private static void weightsOfPut() {
        CHECKS.sentence("No WEIGHT is below -100000 or above 100000: put");
        int[][] edges = {{1, 29, 138, 720}, {2, 29, 138, 720}, {3, 29, 138, 720}, {1, 28, 277, 360}, {2, 28, 277, 360},
            {1, 27, 555, 180}, {2, 27, 555, 180}, {1, 18, 833, 120}, {2, 18, 833, 120}, {3, 18, 833, 120}};
        for (int[] edge : edges) {
            for (int sign = -1; sign <= 1; sign += 2) {
                BasisMoves x = new BasisMoves();
                int n = sign * edge[2];
                int last = edge[1] >= 19 ? 29 : 18;
                String call = "put(0, " + edge[0] + ", " + edge[1] + ", " + n + ")";
                CHECKS.due(call, x.put(0, edge[0], edge[1], n), 1);
                CHECKS.due("its last weight", x.coefficient(0, 0, last, 0), (long) n * edge[3]);
                String before = Checks.weights(x, 0);
                CHECKS.due(call + ", one more", x.put(0, edge[0], edge[1], n + sign), FULL);
                CHECKS.same("what is held", Checks.weights(x, 0), before);
            }
        }
        BasisMoves x = new BasisMoves();
        for (int a = 0; a < 30; a++) {
            CHECKS.due("put(0, 0, " + a + ", 1000)", x.put(0, 0, a, 1000), 1);
            CHECKS.due("put(0, 0, " + a + ", -1000)", x.put(0, 0, a, -1000), 1);
            CHECKS.due("put(0, 4, " + a + ", 1000)", x.put(0, 4, a, 1000), 1);
            CHECKS.due("put(0, 4, " + a + ", -1000)", x.put(0, 4, a, -1000), 1);
        }
    }

    private static void weightsOfAdd() {
        CHECKS.sentence("No WEIGHT is below -100000 or above 100000: add");
        for (int sign = -1; sign <= 1; sign += 2) {
            BasisMoves x = new BasisMoves();
            hold(x, 0, 24, sign * 100000);
            hold(x, 1, 24, sign);
            CHECKS.due("add(0, 1, 1)", x.add(0, 1, 1), FULL);
            CHECKS.due("add(0, 1, 0)", x.add(0, 1, 0), 1);
            CHECKS.due("add(0, 0, 1)", x.add(0, 0, 1), FULL);
            CHECKS.due("add(0, 0, -3)", x.add(0, 0, -3), FULL);
            CHECKS.same("what is held", Checks.weights(x, 0), "24:" + sign * 100000 + " ");
            CHECKS.due("add(0, 0, -2)", x.add(0, 0, -2), 1);
            CHECKS.same("what is held", Checks.weights(x, 0), "24:" + -sign * 100000 + " ");
            CHECKS.due("add(0, 1, -1)", x.add(0, 1, -1), FULL);
            CHECKS.due("add(0, 1, 1)", x.add(0, 1, 1), 1);
            CHECKS.due("add(0, 1, -1)", x.add(0, 1, -1), 1);
            CHECKS.due("add(0, 0, -1)", x.add(0, 0, -1), 1);
            CHECKS.same("what is held", Checks.weights(x, 0), "");
            // what is on the way is great, what comes of it is not
            hold(x, 0, 24, sign * 100000);
            hold(x, 1, 24, sign * 200);
            CHECKS.due("add(0, 1, -1000)", x.add(0, 1, -1000), 1);
            CHECKS.same("what is held", Checks.weights(x, 0), "24:" + -sign * 100000 + " ");
        }
    }

    private static void weightsOfTimes() {
        CHECKS.sentence("No WEIGHT is below -100000 or above 100000: times");
        for (int sign = -1; sign <= 1; sign += 2) {
            BasisMoves x = new BasisMoves();
            hold(x, 0, 0, 11);
            hold(x, 1, 0, sign * 9091);
            CHECKS.due("times(2, 0, 1), 100001", x.times(2, 0, 1), FULL);
            CHECKS.due("times(2, 1, 0), 100001", x.times(2, 1, 0), FULL);
            CHECKS.same("what is held", Checks.weights(x, 2), "");
            hold(x, 0, 1, 100);
            hold(x, 1, 0, sign * 1000);
            CHECKS.due("times(2, 0, 1), 100000", x.times(2, 0, 1), 1);
            CHECKS.same("what is held", Checks.weights(x, 2), "1:" + sign * 100000 + " ");
            // m(1) times m(1) is m(2) + 2 m(1 1): the second one alone is too great
            hold(x, 1, 1, sign * 500);
            CHECKS.due("times(2, 0, 1)", x.times(2, 0, 1), 1);
            CHECKS.same("what is held", Checks.weights(x, 2), "2:" + sign * 50000 + " 3:" + sign * 100000 + " ");
            hold(x, 1, 1, sign * 501);
            CHECKS.due("times(2, 0, 1), 100200", x.times(2, 0, 1), FULL);
            CHECKS.same("what is held", Checks.weights(x, 2), "2:" + sign * 50000 + " 3:" + sign * 100000 + " ");
        }
    }

    /** x m(1 1) + y m(2), turned, is x m(1 1) + (x - y) m(2). */
    private static void weightsOfTurn() {
        CHECKS.sentence("No WEIGHT is below -100000 or above 100000: turn");
        for (int sign = -1; sign <= 1; sign += 2) {
            BasisMoves x = new BasisMoves();
            hold(x, 0, 3, sign * 50000);
            CHECKS.plus(x, 0, 0, 2, -sign * 50000);
            CHECKS.due("turn(1, 0)", x.turn(1, 0), 1);
            String held = "2:" + sign * 100000 + " 3:" + sign * 50000 + " ";
            CHECKS.same("what is held", Checks.weights(x, 1), held);
            CHECKS.plus(x, 0, 0, 2, -sign);
            CHECKS.due("turn(1, 0), 100001", x.turn(1, 0), FULL);
            CHECKS.same("what is held", Checks.weights(x, 1), held);
            CHECKS.due("turn(0, 0), 100001", x.turn(0, 0), FULL);
            CHECKS.same("what is held", Checks.weights(x, 0), "2:" + -sign * 50001 + " 3:" + sign * 50000 + " ");
        }
    }

    private static void weightsOfStrip() {
        CHECKS.sentence("No WEIGHT is below -100000 or above 100000: strip");
        for (int sign = -1; sign <= 1; sign += 2) {
            BasisMoves x = new BasisMoves();
            hold(x, 0, 1, sign * 11);
            hold(x, 1, 1, 9091);
            CHECKS.due("strip(2, 0, 1), 100001", x.strip(2, 0, 1), FULL);
            CHECKS.due("strip(2, 1, 0), 100001", x.strip(2, 1, 0), FULL);
            CHECKS.same("what is held", Checks.weights(x, 2), "");
            hold(x, 0, 1, sign * 10);
            hold(x, 1, 1, 10000);
            CHECKS.due("strip(2, 0, 1), 100000", x.strip(2, 0, 1), 1);
            CHECKS.same("what is held", Checks.weights(x, 2), "0:" + sign * 100000 + " ");
            hold(x, 0, 0, sign * 11);
            hold(x, 1, 24, 9091);
            CHECKS.due("strip(2, 0, 1), 100001", x.strip(2, 0, 1), FULL);
            CHECKS.same("what is held", Checks.weights(x, 2), "0:" + sign * 100000 + " ");
            hold(x, 1, 24, 9090);
            CHECKS.due("strip(2, 0, 1), 99990", x.strip(2, 0, 1), 1);
            CHECKS.same("what is held", Checks.weights(x, 2), "24:" + sign * 99990 + " ");
        }
    }

    /** x p(2) met with y p(2) is 2 x y p(2), and p(2) is m(2). */
    private static void weightsOfMeet() {
        CHECKS.sentence("No WEIGHT is below -100000 or above 100000: meet");
        for (int sign = -1; sign <= 1; sign += 2) {
            BasisMoves x = new BasisMoves();
            hold(x, 0, 2, sign * 21);
            hold(x, 1, 2, 2381);
            CHECKS.due("meet(2, 0, 1), 100002", x.meet(2, 0, 1), FULL);
            CHECKS.due("meet(2, 1, 0), 100002", x.meet(2, 1, 0), FULL);
            CHECKS.same("what is held", Checks.weights(x, 2), "");
            hold(x, 0, 2, sign * 5);
            hold(x, 1, 2, 10000);
            CHECKS.due("meet(2, 0, 1), 100000", x.meet(2, 0, 1), 1);
            CHECKS.same("what is held", Checks.weights(x, 2), "2:" + sign * 100000 + " ");
            hold(x, 0, 0, sign * 11);
            hold(x, 1, 0, 9091);
            CHECKS.due("meet(2, 0, 1), 100001", x.meet(2, 0, 1), FULL);
            CHECKS.same("what is held", Checks.weights(x, 2), "2:" + sign * 100000 + " ");
        }
    }

    /** h(6) plugged with 9 is 3003: 33 times it and 901 are just 100000. */
    private static void weightsOfPlug() {
        CHECKS.sentence("No WEIGHT is below -100000 or above 100000: plug");
        for (int sign = -1; sign <= 1; sign += 2) {
            BasisMoves x = new BasisMoves();
            CHECKS.due("put(0, 2, 19, ..)", x.put(0, 2, 19, sign * 33), 1);
            CHECKS.plus(x, 0, 0, 0, sign * 901);
            hold(x, 1, 0, 9);
            CHECKS.due("plug(2, 0, 1), 100000", x.plug(2, 0, 1), 1);
            CHECKS.same("what is held", Checks.weights(x, 2), "0:" + sign * 100000 + " ");
            CHECKS.plus(x, 0, 0, 0, sign);
            CHECKS.due("plug(2, 0, 1), 100001", x.plug(2, 0, 1), FULL);
            CHECKS.same("what is held", Checks.weights(x, 2), "0:" + sign * 100000 + " ");
            // x p(1 1 1) plugged with 9 m(1): 729 x times m(3) + 3 m(2 1) + 6 m(1 1 1)
            hold(x, 1, 1, 9);
            CHECKS.due("put(0, 3, 6, ..)", x.put(0, 3, 6, sign * 22), 1);
            CHECKS.due("plug(2, 0, 1), 96228", x.plug(2, 0, 1), 1);
            String held = "4:" + sign * 16038 + " 5:" + sign * 48114 + " 6:" + sign * 96228 + " ";
            CHECKS.same("what is held", Checks.weights(x, 2), held);
            CHECKS.due("put(0, 3, 6, ..)", x.put(0, 3, 6, sign * 23), 1);
            CHECKS.due("plug(2, 0, 1), 100602", x.plug(2, 0, 1), FULL);
            CHECKS.same("what is held", Checks.weights(x, 2), held);
        }
    }

    private static void weightsAtEachPartition() {
        CHECKS.sentence("No WEIGHT is below -100000 or above 100000: of whatever PARTITION");
        for (int a = 0; a < 30; a++) {
            for (int sign = -1; sign <= 1; sign += 2) {
                BasisMoves x = new BasisMoves();
                hold(x, 0, a, sign * 100000);
                hold(x, 1, a, sign);
                hold(x, 2, 0, 1);
                hold(x, 3, 0, -2);
                CHECKS.due("add to the weight of " + a, x.add(0, 1, 1), FULL);
                CHECKS.due("times 1, of " + a, x.times(4, 0, 2), 1);
                CHECKS.same("what is held", Checks.weights(x, 4), a + ":" + sign * 100000 + " ");
                CHECKS.due("times -2, of " + a, x.times(4, 0, 3), FULL);
                CHECKS.due("strip 1, of " + a, x.strip(5, 2, 0), 1);
                CHECKS.same("what is held", Checks.weights(x, 5), a + ":" + sign * 100000 + " ");
                CHECKS.due("strip -2, of " + a, x.strip(5, 3, 0), FULL);
            }
        }
    }

    private static void stateOfPlugAtEachPartition() {
        CHECKS.sentence("STATE: a WEIGHT of a is below -1000 or above 1000, or one of b below -9 or above 9");
        for (int a = 0; a < 30; a++) {
            for (int sign = -1; sign <= 1; sign += 2) {
                BasisMoves x = new BasisMoves();
                CHECKS.due("put(1, 0, 1, 1)", x.put(1, 0, 1, 1), 1);
                hold(x, 0, a, sign * 1000);
                CHECKS.due("plug(2, 0, 1), 1000 of " + a, x.plug(2, 0, 1), 1);
                CHECKS.same("what is held", Checks.weights(x, 2), a + ":" + sign * 1000 + " ");
                CHECKS.plus(x, 0, 0, a, sign);
                CHECKS.due("plug(2, 0, 1), 1001 of " + a, x.plug(2, 0, 1), STATE);
                hold(x, 0, a, sign * 9);
                CHECKS.due("plug(2, 1, 0), 9 of " + a, x.plug(2, 1, 0), 1);
                CHECKS.same("what is held", Checks.weights(x, 2), a + ":" + sign * 9 + " ");
                hold(x, 0, a, sign * 10);
                CHECKS.due("plug(2, 1, 0), 10 of " + a, x.plug(2, 1, 0), STATE);
                CHECKS.same("what is held", Checks.weights(x, 2), a + ":" + sign * 9 + " ");
            }
        }
    }

    /** It is the numbers before the m(a) that count, not those before the members of other bases. */
    private static void stateOfPlugByWeights() {
        CHECKS.sentence("Each SUM is, in one way, whole numbers times m(a), added: its WEIGHTS (plug's STATE)");
        BasisMoves x = new BasisMoves();
        CHECKS.due("put(1, 0, 1, 1)", x.put(1, 0, 1, 1), 1);
        CHECKS.due("put(0, 2, 29, 1)", x.put(0, 2, 29, 1), 1);
        CHECKS.due("plug(2, 0, 1), a weight 720", x.plug(2, 0, 1), 1);
        CHECKS.due("put(0, 2, 29, 2)", x.put(0, 2, 29, 2), 1);
        CHECKS.due("plug(2, 0, 1), a weight 1440", x.plug(2, 0, 1), STATE);
        CHECKS.due("put(0, 2, 6, 1)", x.put(0, 2, 6, 1), 1);
        CHECKS.due("plug(2, 1, 0), a weight 6", x.plug(2, 1, 0), 1);
        CHECKS.due("put(0, 2, 10, 1)", x.put(0, 2, 10, 1), 1);
        CHECKS.due("plug(2, 1, 0), a weight 12", x.plug(2, 1, 0), STATE);
        // 9 m(2) is 9 p(2), and -18 before e(2)
        CHECKS.due("put(0, 0, 2, 9)", x.put(0, 0, 2, 9), 1);
        CHECKS.due("coefficient(0, 1, 2, 0)", x.coefficient(0, 1, 2, 0), -18);
        CHECKS.due("plug(2, 1, 0)", x.plug(2, 1, 0), 1);
        CHECKS.same("what is held", Checks.weights(x, 2), "2:9 ");
    }

    /** A member of a degree: 1 times m of its first partition, or of its last one; -1: 0. */
    private static void holdDegree(BasisMoves x, int slot, int degree, boolean last) {
        int a = degree < 0 ? 0 : last ? STARTS[degree + 1] - 1 : STARTS[degree];
        CHECKS.due("put", x.put(slot, 0, a, degree < 0 ? 0 : 1), 1);
    }

    private static void degreesOfTimes() {
        CHECKS.sentence("FULL: neither is 0 and their DEGREES together are above 6 (times)");
        for (int one = -1; one <= 6; one++) {
            for (int other = -1; other <= 6; other++) {
                for (int kind = 0; kind < 4; kind++) {
                    BasisMoves x = new BasisMoves();
                    holdDegree(x, 0, one, kind % 2 == 1);
                    holdDegree(x, 1, other, kind / 2 == 1);
                    holdDegree(x, 2, 5, false);
                    boolean zero = one < 0 || other < 0;
                    boolean full = !zero && one + other > 6;
                    String call = "times(2, 0, 1), degrees " + one + " and " + other;
                    CHECKS.due(call, x.times(2, 0, 1), full ? FULL : 1);
                    CHECKS.due("the degree after " + call, x.degree(2), full ? 5 : zero ? NONE : one + other);
                }
            }
        }
    }

    private static void degreesOfPlug() {
        CHECKS.sentence("FULL: both have a DEGREE above 0 and one DEGREE times the other one is above 6 (plug)");
        for (int one = -1; one <= 6; one++) {
            for (int other = -1; other <= 6; other++) {
                for (int kind = 0; kind < 2; kind++) {
                    BasisMoves x = new BasisMoves();
                    holdDegree(x, 0, one, kind == 1);
                    holdDegree(x, 1, other, kind == 1);
                    holdDegree(x, 2, 5, false);
                    boolean full = one > 0 && other > 0 && one * other > 6;
                    String call = "plug(2, 0, 1), degrees " + one + " and " + other;
                    CHECKS.due(call, x.plug(2, 0, 1), full ? FULL : 1);
                    CHECKS.due("the degree after " + call, x.degree(2),
                            full ? 5 : pluggedDegree(one, other, kind == 1));
                }
            }
        }
    }

    /** Of p(one) plugged with p(other), or of e(one) with e(other): e of more than 1 with 1 is 0. */
    private static int pluggedDegree(int one, int other, boolean elementary) {
        if (one <= 0) {
            return one < 0 ? NONE : 0;
        }
        if (other < 0 || other == 0 && elementary && one > 1) {
            return NONE;
        }
        return one * other;
    }

    private static void degreesThatHaveGone() {
        CHECKS.sentence("The DEGREE of a SUM: the greatest DEGREE of any PARTITION whose WEIGHT is not 0");
        BasisMoves x = new BasisMoves();
        CHECKS.due("put(0, 0, 19, 3)", x.put(0, 0, 19, 3), 1);
        CHECKS.due("put(1, 0, 1, 3)", x.put(1, 0, 1, 3), 1);
        CHECKS.due("add(0, 1, 1)", x.add(0, 1, 1), 1);
        CHECKS.due("degree(0)", x.degree(0), 6);
        CHECKS.due("times(2, 0, 1)", x.times(2, 0, 1), FULL);
        CHECKS.due("plug(2, 0, 0)", x.plug(2, 0, 0), FULL);
        CHECKS.due("put(3, 0, 19, -1)", x.put(3, 0, 19, -1), 1);
        CHECKS.due("add(0, 3, 3)", x.add(0, 3, 3), 1);
        CHECKS.due("degree(0), 6 has gone", x.degree(0), 1);
        CHECKS.due("times(2, 0, 1)", x.times(2, 0, 1), 1);
        CHECKS.same("what is held", Checks.weights(x, 2), "2:9 3:18 ");
        CHECKS.due("plug(2, 0, 0)", x.plug(2, 0, 0), 1);
        CHECKS.same("what is held", Checks.weights(x, 2), "1:9 ");
        CHECKS.due("add(0, 1, -1)", x.add(0, 1, -1), 1);
        CHECKS.due("degree(0), all has gone", x.degree(0), NONE);
        CHECKS.due("put(4, 4, 29, 1)", x.put(4, 4, 29, 1), 1);
        CHECKS.due("times(5, 4, 0), degree 6 and 0", x.times(5, 4, 0), 1);
        CHECKS.due("degree(5)", x.degree(5), NONE);
        for (int a = 0; a < 30; a++) {
            CHECKS.due("put(6, 0, " + a + ", -1)", x.put(6, 0, a, -1), 1);
            CHECKS.due("degree(6)", x.degree(6), x.about(a, 0));
        }
    }

    /** In h(6), e(6), m(1 1 1 1 1 1) the number before p of six ones is 1/720: it is not to be lost. */
    private static void leastNumbers() {
        CHECKS.sentence("Each SUM is, in one way, numbers times members of each BASE .. of BASE 3 fractions (the least)");
        for (int base = 1; base <= 2; base++) {
            for (int sign = -1; sign <= 1; sign += 2) {
                BasisMoves x = new BasisMoves();
                CHECKS.due("put(0, ..)", x.put(0, base, 19, sign), 1);
                CHECKS.due("put(1, 0, 0, 1)", x.put(1, 0, 0, 1), 1);
                CHECKS.due("put(2, 2, 1, 1)", x.put(2, 2, 1, 1), 1);
                CHECKS.due("put(3, 2, 19, 1)", x.put(3, 2, 19, 1), 1);
                CHECKS.due("upper", x.coefficient(0, 3, 29, 0), sign);
                CHECKS.due("lower", x.coefficient(0, 3, 29, 1), 720);
                keeps(x, base, sign, "times(4, 0, 1)", y -> y.times(4, 0, 1));
                keeps(x, base, sign, "times(4, 1, 0)", y -> y.times(4, 1, 0));
                keeps(x, base, sign, "strip(4, 1, 0)", y -> y.strip(4, 1, 0));
                keeps(x, base, sign, "plug(4, 0, 2)", y -> y.plug(4, 0, 2));
                keeps(x, base, sign, "plug(4, 2, 0)", y -> y.plug(4, 2, 0));
                keeps(x, base, sign, "meet(4, 0, 3), with h(6)", y -> y.meet(4, 0, 3));
                keeps(x, base, sign, "meet(4, 3, 0), with h(6)", y -> y.meet(4, 3, 0));
                keeps(x, 3 - base, sign, "turn(4, 0)", y -> y.turn(4, 0));
                CHECKS.due("value(0, 1, 0, 0)", x.value(0, 1, 0, 0), base == 2 ? sign : 0);
                CHECKS.due("value(0, 1, 1, 1)", x.value(0, 1, 1, 1), base == 2 ? 28 * sign : 0);
            }
        }
    }

    /** A call by which slot 4 must hold e(6) or h(6), with a sign, and nothing else. */
    private static void keeps(BasisMoves x, int base, int sign, String call, Checks.Call made) {
        CHECKS.due(call, made.on(x), 1);
        CHECKS.same("by base " + base + " after " + call, Checks.numbers(x, 4, base), "19:" + sign + " ");
    }

    private static void calls512() {
        CHECKS.sentence("An object is used for at most 512 calls after it has been made");
        BasisMoves x = new BasisMoves();
        CHECKS.due("call 1", x.put(0, 4, 24, 1), 1);
        CHECKS.due("call 2", x.put(1, 0, 1, 1), 1);
        for (int i = 3; i <= 511; i++) {
            int kind = i % 4;
            long got = kind == 0 ? x.plug(0, 0, 1) : kind == 1 ? x.turn(0, 0) : kind == 2 ? x.image(i % 2)
                    : x.restore(0);
            CHECKS.due("call " + i, got, i == 3 ? STATE : 1);
        }
        CHECKS.due("call 512", x.coefficient(0, 0, 29, 0), 16);
    }
}

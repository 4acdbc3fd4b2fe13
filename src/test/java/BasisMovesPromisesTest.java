/**
 * Each promise by itself, with answers written out by hand from the document: ordinary calls, the
 * edges that it names, and wrong inputs. (BasisMovesRandomTest has the runs of many calls.)
 */
public final class BasisMovesPromisesTest {
    private static final long GONE_UNKNOWN = -4000000000000000001L;
    private static final long GONE_OUTSIDE = -4000000000000000002L;
    private static final int[] NO_SLOT = {-1, 8, 9, 1 << 28, Integer.MAX_VALUE, Integer.MIN_VALUE};
    private static final int[] NO_BASE = {-1, 5, Integer.MAX_VALUE, Integer.MIN_VALUE};
    private static final int[] NO_PARTITION = {-1, 30, 31, 1 << 30, Integer.MAX_VALUE, Integer.MIN_VALUE};
    private static final int[] NO_FACTOR = {-1001, 1001, Integer.MAX_VALUE, Integer.MIN_VALUE};
    private static int wrong = 0;
    private static int promise = 0;

    private static void due(String call, long got, long want) {
        if (got != want) {
            wrong++;
            System.out.println("promise " + promise + ": " + call + " answered " + got + ", due is " + want);
        }
    }

    /** The weights of a slot, as pairs of a partition and its weight; all others are to be 0. */
    private static void weights(BasisMoves x, int slot, long... pairs) {
        for (int a = 0; a < 30; a++) {
            long want = 0;
            for (int i = 0; i + 1 < pairs.length; i += 2) {
                want = pairs[i] == a ? pairs[i + 1] : want;
            }
            due("coefficient(" + slot + ", 0, " + a + ", 0)", x.coefficient(slot, 0, a, 0), want);
        }
    }

    /** Slots 0: s(2 1), 1: h(1), 2: 7 and all others 0. */
    private static BasisMoves filled() {
        BasisMoves x = new BasisMoves();
        due("put(0, 4, 5, 1)", x.put(0, 4, 5, 1), 1);
        due("put(1, 2, 1, 1)", x.put(1, 2, 1, 1), 1);
        due("put(2, 3, 0, 7)", x.put(2, 3, 0, 7), 1);
        return x;
    }

    private static void isStillFilled(BasisMoves x) {
        weights(x, 0, 5, 1, 6, 2);
        weights(x, 1, 1, 1);
        weights(x, 2, 0, 7);
        due("count(0)", x.count(0), 3);
    }

    public static void main(String[] args) {
        newObject();
        part();
        about();
        kostka();
        character();
        above();
        put();
        add();
        degree();
        coefficient();
        next();
        value();
        scalar();
        times();
        turn();
        strip();
        meet();
        plug();
        image();
        restore();
        count();
        System.out.println(wrong == 0 ? "all promises are kept" : wrong + " answers are not as due");
        if (wrong != 0) {
            System.exit(1);
        }
    }

    private static void newObject() {
        promise = 1;
        BasisMoves x = new BasisMoves();
        for (int slot = 0; slot < 8; slot++) {
            due("degree(" + slot + ")", x.degree(slot), -6);
            weights(x, slot);
        }
        due("count(0)", x.count(0), 0);
        due("count(1)", x.count(1), 0);
        due("restore(0)", x.restore(0), -3);
        due("restore(1)", x.restore(1), -3);
        BasisMoves other = new BasisMoves();
        due("put", x.put(0, 0, 0, 1), 1);
        due("image", x.image(0), 1);
        due("of another object: degree(0)", other.degree(0), -6);
        due("of another object: count(1)", other.count(1), 0);
    }

    private static void part() {
        promise = 2;
        BasisMoves x = new BasisMoves();
        String[] rows = {"", "1", "2", "11", "3", "21", "111", "4", "31", "22", "211", "1111", "5", "41",
            "32", "311", "221", "2111", "11111", "6", "51", "42", "411", "33", "321", "3111", "222",
            "2211", "21111", "111111"};
        for (int a = 0; a < 30; a++) {
            for (int k = 0; k < 6; k++) {
                int want = k < rows[a].length() ? rows[a].charAt(k) - '0' : 0;
                due("part(" + a + ", " + k + ")", x.part(a, k), want);
            }
            due("part(" + a + ", 6)", x.part(a, 6), -2);
            due("part(" + a + ", -1)", x.part(a, -1), -2);
        }
        for (int a : NO_PARTITION) {
            due("part(" + a + ", 0)", x.part(a, 0), -1);
            due("part(" + a + ", 6)", x.part(a, 6), -1);
        }
        due("part(3, max)", x.part(3, Integer.MAX_VALUE), -2);
        due("part(3, min)", x.part(3, Integer.MIN_VALUE), -2);
    }

    private static void about() {
        promise = 3;
        BasisMoves x = new BasisMoves();
        int[] lengths = {0, 1, 1, 2, 1, 2, 3, 1, 2, 2, 3, 4, 1, 2, 2, 3, 3, 4, 5,
            1, 2, 2, 3, 2, 3, 4, 3, 4, 5, 6};
        int[] conjugates = {0, 1, 3, 2, 6, 5, 4, 11, 10, 9, 8, 7, 18, 17, 16, 15, 14, 13, 12,
            29, 28, 27, 25, 26, 24, 22, 23, 21, 20, 19};
        int[] zs = {1, 1, 2, 2, 3, 2, 6, 4, 3, 8, 4, 24, 5, 4, 6, 6, 8, 12, 120,
            6, 5, 8, 8, 18, 6, 18, 48, 16, 48, 720};
        int[] tableaux = {1, 1, 1, 1, 1, 2, 1, 1, 3, 2, 3, 1, 1, 4, 5, 6, 5, 4, 1,
            1, 5, 9, 10, 5, 16, 10, 5, 9, 5, 1};
        int[] starts = {0, 1, 2, 4, 7, 12, 19, 30};
        for (int a = 0; a < 30; a++) {
            int degree = 0;
            while (starts[degree + 1] <= a) {
                degree++;
            }
            due("about(" + a + ", 0)", x.about(a, 0), degree);
            due("about(" + a + ", 1)", x.about(a, 1), lengths[a]);
            due("about(" + a + ", 2)", x.about(a, 2), conjugates[a]);
            due("about(" + a + ", 3)", x.about(a, 3), zs[a]);
            due("about(" + a + ", 4)", x.about(a, 4), tableaux[a]);
            due("about(" + a + ", 5)", x.about(a, 5), -2);
            due("about(" + a + ", -1)", x.about(a, -1), -2);
        }
        for (int a : NO_PARTITION) {
            due("about(" + a + ", 0)", x.about(a, 0), -1);
            due("about(" + a + ", 5)", x.about(a, 5), -1);
        }
    }

    private static void kostka() {
        promise = 4;
        BasisMoves x = new BasisMoves();
        int[][] ofFour = {{1, 1, 1, 1, 1}, {0, 1, 1, 2, 3}, {0, 0, 1, 1, 2}, {0, 0, 0, 1, 3}, {0, 0, 0, 0, 1}};
        for (int a = 0; a < 5; a++) {
            for (int b = 0; b < 5; b++) {
                due("kostka(" + (7 + a) + ", " + (7 + b) + ")", x.kostka(7 + a, 7 + b), ofFour[a][b]);
            }
        }
        due("kostka(0, 0)", x.kostka(0, 0), 1);
        due("kostka(24, 29)", x.kostka(24, 29), 16);
        due("kostka(24, 27)", x.kostka(24, 27), 4);
        due("kostka(22, 23), neither above the other", x.kostka(22, 23), 0);
        due("kostka(4, 7), of unlike degrees", x.kostka(4, 7), 0);
        due("kostka(0, 29), of unlike degrees", x.kostka(0, 29), 0);
        wrongPartitions(x, 0);
    }

    private static void wrongPartitions(BasisMoves x, int kind) {
        for (int no : NO_PARTITION) {
            for (int other : new int[] {0, 29, no}) {
                long one = kind == 0 ? x.kostka(no, other) : kind == 1 ? x.character(no, other) : x.above(no, other);
                long two = kind == 0 ? x.kostka(other, no) : kind == 1 ? x.character(other, no) : x.above(other, no);
                due("of (" + no + ", " + other + ")", one, -1);
                due("of (" + other + ", " + no + ")", two, -1);
            }
        }
    }

    private static void character() {
        promise = 5;
        BasisMoves x = new BasisMoves();
        // Rows: (4), (3 1), (2 2), (2 1 1), (1 1 1 1); columns likewise.
        int[][] ofFour = {{1, 1, 1, 1, 1}, {-1, 0, -1, 1, 3}, {0, -1, 2, 0, 2}, {1, 0, -1, -1, 3}, {-1, 1, 1, -1, 1}};
        for (int a = 0; a < 5; a++) {
            for (int b = 0; b < 5; b++) {
                due("character(" + (7 + a) + ", " + (7 + b) + ")", x.character(7 + a, 7 + b), 1000 + ofFour[a][b]);
            }
        }
        due("character(0, 0)", x.character(0, 0), 1001);
        due("character(29, 19)", x.character(29, 19), 999);
        due("character(24, 29)", x.character(24, 29), 1016);
        due("character(24, 23)", x.character(24, 23), 998);
        due("character(4, 7), of unlike degrees", x.character(4, 7), 1000);
        wrongPartitions(x, 1);
    }

    private static void above() {
        promise = 6;
        BasisMoves x = new BasisMoves();
        for (int a = 0; a < 30; a++) {
            due("above(" + a + ", " + a + ")", x.above(a, a), 1);
        }
        due("above(4, 6)", x.above(4, 6), 1);
        due("above(6, 4)", x.above(6, 4), 0);
        due("above(22, 23)", x.above(22, 23), 0);
        due("above(23, 22)", x.above(23, 22), 0);
        due("above(25, 26)", x.above(25, 26), 0);
        due("above(26, 25)", x.above(26, 25), 0);
        due("above(21, 23)", x.above(21, 23), 1);
        due("above(24, 26)", x.above(24, 26), 1);
        due("above(7, 4), of unlike degrees", x.above(7, 4), 0);
        due("above(4, 7), of unlike degrees", x.above(4, 7), 0);
        wrongPartitions(x, 2);
    }

    private static void put() {
        promise = 7;
        BasisMoves x = new BasisMoves();
        due("put(0, 0, 5, 3)", x.put(0, 0, 5, 3), 1);
        weights(x, 0, 5, 3);
        due("put(0, 1, 5, 2)", x.put(0, 1, 5, 2), 1);
        weights(x, 0, 5, 2, 6, 6);
        due("put(0, 2, 5, -1)", x.put(0, 2, 5, -1), 1);
        weights(x, 0, 4, -1, 5, -2, 6, -3);
        due("put(0, 3, 5, 1000)", x.put(0, 3, 5, 1000), 1);
        weights(x, 0, 4, 1000, 5, 1000);
        due("put(0, 4, 5, -1000)", x.put(0, 4, 5, -1000), 1);
        weights(x, 0, 5, -1000, 6, -2000);
        due("put(0, 4, 5, 0)", x.put(0, 4, 5, 0), 1);
        weights(x, 0);
        for (int base = 0; base < 5; base++) {
            due("put(7, " + base + ", 0, 4)", x.put(7, base, 0, 4), 1);
            weights(x, 7, 0, 4);
        }
        x = filled();
        due("put(0, 2, 29, 139)", x.put(0, 2, 29, 139), -4);
        due("put(0, 1, 29, -139)", x.put(0, 1, 29, -139), -4);
        for (int no : NO_SLOT) {
            due("put(" + no + ", 0, 0, 1)", x.put(no, 0, 0, 1), -1);
        }
        for (int no : NO_BASE) {
            due("put(0, " + no + ", 0, 1)", x.put(0, no, 0, 1), -1);
        }
        for (int no : NO_PARTITION) {
            due("put(0, 0, " + no + ", 1)", x.put(0, 0, no, 1), -1);
        }
        for (int no : NO_FACTOR) {
            due("put(0, 2, 29, " + no + ")", x.put(0, 2, 29, no), -2);
            due("put(8, 0, 0, " + no + ")", x.put(8, 0, 0, no), -1);
            due("put(0, 5, 0, " + no + ")", x.put(0, 5, 0, no), -1);
            due("put(0, 0, 30, " + no + ")", x.put(0, 0, 30, no), -1);
        }
        isStillFilled(x);
        due("put(0, 2, 29, 138)", x.put(0, 2, 29, 138), 1);
        due("coefficient(0, 0, 29, 0)", x.coefficient(0, 0, 29, 0), 99360);
    }

    private static void add() {
        promise = 8;
        BasisMoves x = filled();
        due("add(1, 0, -3)", x.add(1, 0, -3), 1);
        weights(x, 1, 1, 1, 5, -3, 6, -6);
        due("add(1, 1, 2)", x.add(1, 1, 2), 1);
        weights(x, 1, 1, 3, 5, -9, 6, -18);
        due("add(1, 1, -1)", x.add(1, 1, -1), 1);
        weights(x, 1);
        due("add(1, 0, 0)", x.add(1, 0, 0), 1);
        weights(x, 1);
        due("put(3, 0, 4, 1000)", x.put(3, 0, 4, 1000), 1);
        due("add(4, 3, 100)", x.add(4, 3, 100), 1);
        weights(x, 4, 4, 100000);
        due("put(5, 0, 4, 1)", x.put(5, 0, 4, 1), 1);
        due("add(4, 5, 1)", x.add(4, 5, 1), -4);
        due("add(4, 4, 1000)", x.add(4, 4, 1000), -4);
        weights(x, 4, 4, 100000);
        due("add(4, 4, -2)", x.add(4, 4, -2), 1);
        weights(x, 4, 4, -100000);
        due("add(4, 5, -1)", x.add(4, 5, -1), -4);
        weights(x, 4, 4, -100000);
        x = filled();
        for (int no : NO_SLOT) {
            due("add(" + no + ", 0, 1)", x.add(no, 0, 1), -1);
            due("add(0, " + no + ", 1)", x.add(0, no, 1), -1);
            due("add(0, " + no + ", 1001)", x.add(0, no, 1001), -1);
        }
        for (int no : NO_FACTOR) {
            due("add(0, 1, " + no + ")", x.add(0, 1, no), -2);
            due("add(0, 7, " + no + ")", x.add(0, 7, no), -2);
        }
        isStillFilled(x);
    }

    private static void degree() {
        promise = 9;
        BasisMoves x = filled();
        due("degree(0)", x.degree(0), 3);
        due("degree(1)", x.degree(1), 1);
        due("degree(2)", x.degree(2), 0);
        due("degree(3)", x.degree(3), -6);
        due("add(2, 0, 1)", x.add(2, 0, 1), 1);
        due("degree(2)", x.degree(2), 3);
        due("add(2, 0, -1)", x.add(2, 0, -1), 1);
        due("degree(2)", x.degree(2), 0);
        due("put(7, 1, 19, -2)", x.put(7, 1, 19, -2), 1);
        due("degree(7)", x.degree(7), 6);
        for (int no : NO_SLOT) {
            due("degree(" + no + ")", x.degree(no), -1);
        }
    }

    private static void fraction(BasisMoves x, int slot, int base, int a, long upper, long lower) {
        String call = "coefficient(" + slot + ", " + base + ", " + a + ", ";
        due(call + "0)", x.coefficient(slot, base, a, 0), upper);
        due(call + "1)", x.coefficient(slot, base, a, 1), lower);
    }

    private static void coefficient() {
        promise = 10;
        BasisMoves x = filled();
        fraction(x, 0, 3, 4, -1, 3);
        fraction(x, 0, 3, 5, 0, 1);
        fraction(x, 0, 3, 6, 1, 3);
        fraction(x, 0, 1, 4, -1, 1);
        fraction(x, 0, 1, 5, 1, 1);
        fraction(x, 0, 2, 4, -1, 1);
        fraction(x, 0, 2, 5, 1, 1);
        fraction(x, 0, 4, 5, 1, 1);
        fraction(x, 0, 4, 6, 0, 1);
        fraction(x, 0, 0, 6, 2, 1);
        fraction(x, 7, 3, 29, 0, 1);
        // m(1 1) = e(2) = h(1 1) - h(2) = p(1 1)/2 - p(2)/2 = s(1 1)
        due("put(3, 0, 3, 6)", x.put(3, 0, 3, 6), 1);
        fraction(x, 3, 1, 2, 6, 1);
        fraction(x, 3, 1, 3, 0, 1);
        fraction(x, 3, 2, 2, -6, 1);
        fraction(x, 3, 2, 3, 6, 1);
        fraction(x, 3, 3, 2, -3, 1);
        fraction(x, 3, 3, 3, 3, 1);
        // h(6): 1/z before each p
        due("put(4, 2, 19, 1)", x.put(4, 2, 19, 1), 1);
        fraction(x, 4, 3, 29, 1, 720);
        fraction(x, 4, 3, 26, 1, 48);
        due("put(4, 1, 19, -6)", x.put(4, 1, 19, -6), 1);
        fraction(x, 4, 3, 29, -1, 120);
        fraction(x, 4, 3, 19, 1, 1);
        due("to be left as it is", x.degree(4), 6);
        for (int no : NO_SLOT) {
            due("slot " + no, x.coefficient(no, 0, 0, 0), GONE_UNKNOWN);
        }
        for (int no : NO_BASE) {
            due("base " + no, x.coefficient(0, no, 0, 2), GONE_UNKNOWN);
        }
        for (int no : NO_PARTITION) {
            due("partition " + no, x.coefficient(0, 0, no, 2), GONE_UNKNOWN);
        }
        for (int no : new int[] {-1, 2, Integer.MAX_VALUE, Integer.MIN_VALUE}) {
            due("what " + no, x.coefficient(0, 0, 0, no), GONE_OUTSIDE);
            due("slot 8, what " + no, x.coefficient(8, 0, 0, no), GONE_UNKNOWN);
        }
    }

    private static void next() {
        promise = 11;
        BasisMoves x = filled();
        due("next(0, 0, 0)", x.next(0, 0, 0), 5);
        due("next(0, 0, 5)", x.next(0, 0, 5), 5);
        due("next(0, 0, 6)", x.next(0, 0, 6), 6);
        due("next(0, 0, 7)", x.next(0, 0, 7), -6);
        due("next(0, 1, 0)", x.next(0, 1, 0), 4);
        due("next(0, 2, 0)", x.next(0, 2, 0), 4);
        due("next(0, 3, 0)", x.next(0, 3, 0), 4);
        due("next(0, 3, 5)", x.next(0, 3, 5), 6);
        due("next(0, 4, 0)", x.next(0, 4, 0), 5);
        due("next(0, 4, 6)", x.next(0, 4, 6), -6);
        due("put(3, 4, 29, 1)", x.put(3, 4, 29, 1), 1);
        due("next(3, 4, 29)", x.next(3, 4, 29), 29);
        due("next(2, 3, 0)", x.next(2, 3, 0), 0);
        for (int base = 0; base < 5; base++) {
            due("next(0, " + base + ", 30)", x.next(0, base, 30), -6);
            due("next(7, " + base + ", 0)", x.next(7, base, 0), -6);
            due("next(0, " + base + ", 31)", x.next(0, base, 31), -2);
            due("next(0, " + base + ", -1)", x.next(0, base, -1), -2);
        }
        for (int no : NO_SLOT) {
            due("next(" + no + ", 0, 0)", x.next(no, 0, 0), -1);
            due("next(" + no + ", 0, 31)", x.next(no, 0, 31), -1);
        }
        for (int no : NO_BASE) {
            due("next(0, " + no + ", 0)", x.next(0, no, 0), -1);
            due("next(0, " + no + ", -1)", x.next(0, no, -1), -1);
        }
    }

    private static void value() {
        promise = 12;
        BasisMoves x = filled();
        due("value(0, 1, 1, 0)", x.value(0, 1, 1, 0), 2);
        due("value(0, 1, 1, 1)", x.value(0, 1, 1, 1), 8);
        due("value(0, 2, 3, 5)", x.value(0, 2, 3, 5), (2 + 3) * (3 + 5) * (2 + 5));
        due("value(1, -9, 9, 4)", x.value(1, -9, 9, 4), 4);
        due("value(2, 0, 0, 0)", x.value(2, 0, 0, 0), 7);
        due("value(3, 9, 9, 9)", x.value(3, 9, 9, 9), 0);
        due("put(4, 0, 11, 1)", x.put(4, 0, 11, 1), 1);
        due("value(4, 9, 9, 9), of four variables", x.value(4, 9, 9, 9), 0);
        due("put(4, 3, 29, 100)", x.put(4, 3, 29, 100), 1);
        due("value(4, -9, -9, -9)", x.value(4, -9, -9, -9), 38742048900L);
        due("put(4, 0, 24, 1)", x.put(4, 0, 24, 1), 1);
        due("value(4, 1, 2, 3)", x.value(4, 1, 2, 3), 12 + 18 + 24 + 54 + 72 + 108);
        for (int no : NO_SLOT) {
            due("value(" + no + ", 0, 0, 0)", x.value(no, 0, 0, 0), GONE_UNKNOWN);
            due("value(" + no + ", 10, 0, 0)", x.value(no, 10, 0, 0), GONE_UNKNOWN);
        }
        for (int no : new int[] {-10, 10, Integer.MAX_VALUE, Integer.MIN_VALUE}) {
            due("value(0, " + no + ", 0, 0)", x.value(0, no, 0, 0), GONE_OUTSIDE);
            due("value(0, 0, " + no + ", 0)", x.value(0, 0, no, 0), GONE_OUTSIDE);
            due("value(0, 0, 0, " + no + ")", x.value(0, 0, 0, no), GONE_OUTSIDE);
        }
    }

    private static void scalar() {
        promise = 13;
        BasisMoves x = filled();
        due("scalar(0, 0)", x.scalar(0, 0), 1);
        due("scalar(0, 1)", x.scalar(0, 1), 0);
        due("scalar(2, 2)", x.scalar(2, 2), 49);
        due("scalar(0, 7)", x.scalar(0, 7), 0);
        for (int a = 19; a < 30; a++) {
            due("put", x.put(3, 2, a, 3), 1);
            for (int b = 19; b < 30; b++) {
                due("put", x.put(4, 0, b, -5), 1);
                due("scalar of 3 h(" + a + "), -5 m(" + b + ")", x.scalar(3, 4), a == b ? -15 : 0);
            }
        }
        x = filled();
        due("put(3, 3, 29, 1)", x.put(3, 3, 29, 1), 1);
        due("scalar(3, 3)", x.scalar(3, 3), 720);
        due("put(4, 4, 24, 1)", x.put(4, 4, 24, 1), 1);
        due("add(4, 0, 10)", x.add(4, 0, 10), 1);
        due("scalar(3, 4)", x.scalar(3, 4), 16);
        due("scalar(4, 3)", x.scalar(4, 3), 16);
        due("scalar(4, 0)", x.scalar(4, 0), 10);
        for (int no : NO_SLOT) {
            due("scalar(" + no + ", 0)", x.scalar(no, 0), GONE_UNKNOWN);
            due("scalar(0, " + no + ")", x.scalar(0, no), GONE_UNKNOWN);
        }
    }

    private static void times() {
        promise = 14;
        BasisMoves x = filled();
        due("times(3, 0, 1)", x.times(3, 0, 1), 1);
        weights(x, 3, 8, 1, 9, 2, 10, 4, 11, 8);
        due("times(0, 0, 2)", x.times(0, 0, 2), 1);
        weights(x, 0, 5, 7, 6, 14);
        due("times(1, 1, 1)", x.times(1, 1, 1), 1);
        weights(x, 1, 2, 1, 3, 2);
        due("times(4, 5, 0), of 0", x.times(4, 5, 0), 1);
        weights(x, 4);
        due("put(4, 1, 19, 1)", x.put(4, 1, 19, 1), 1);
        due("times(6, 4, 5), of 0", x.times(6, 4, 5), 1);
        due("times(6, 4, 2), degrees 6 and 0", x.times(6, 4, 2), 1);
        weights(x, 6, 29, 7);
        due("put(6, 0, 1, 1)", x.put(6, 0, 1, 1), 1);
        due("times(6, 4, 6), degrees 6 and 1", x.times(6, 4, 6), -4);
        due("times(6, 6, 4), degrees 1 and 6", x.times(6, 6, 4), -4);
        weights(x, 6, 1, 1);
        due("put(6, 0, 0, 1000)", x.put(6, 0, 0, 1000), 1);
        due("put(7, 0, 0, 101)", x.put(7, 0, 0, 101), 1);
        due("times(6, 6, 7), 101000", x.times(6, 6, 7), -4);
        weights(x, 6, 0, 1000);
        due("put(7, 0, 0, -100)", x.put(7, 0, 0, -100), 1);
        due("times(6, 6, 7), -100000", x.times(6, 6, 7), 1);
        weights(x, 6, 0, -100000);
        wrongSlots(0);
    }

    private static long work(BasisMoves x, int kind, int to, int a, int b) {
        switch (kind) {
            case 0: return x.times(to, a, b);
            case 1: return x.strip(to, a, b);
            case 2: return x.meet(to, a, b);
            default: return x.plug(to, a, b);
        }
    }

    private static void wrongSlots(int kind) {
        BasisMoves x = filled();
        for (int no : NO_SLOT) {
            due("work(" + no + ", 0, 1)", work(x, kind, no, 0, 1), -1);
            due("work(1, " + no + ", 0)", work(x, kind, 1, no, 0), -1);
            due("work(1, 0, " + no + ")", work(x, kind, 1, 0, no), -1);
            due("work(0, 0, " + no + ")", work(x, kind, 0, 0, no), -1);
        }
        isStillFilled(x);
    }

    private static void turn() {
        promise = 15;
        BasisMoves x = filled();
        due("put(3, 1, 14, 3)", x.put(3, 1, 14, 3), 1);
        due("turn(4, 3)", x.turn(4, 3), 1);
        due("next(4, 2, 0)", x.next(4, 2, 0), 14);
        due("coefficient(4, 2, 14, 0)", x.coefficient(4, 2, 14, 0), 3);
        due("next(4, 2, 15)", x.next(4, 2, 15), -6);
        due("turn(4, 4)", x.turn(4, 4), 1);
        due("next(4, 1, 0)", x.next(4, 1, 0), 14);
        due("next(4, 1, 15)", x.next(4, 1, 15), -6);
        due("put(5, 4, 8, 1)", x.put(5, 4, 8, 1), 1);
        due("turn(5, 5)", x.turn(5, 5), 1);
        due("next(5, 4, 0)", x.next(5, 4, 0), 10);
        due("next(5, 4, 11)", x.next(5, 4, 11), -6);
        due("turn(5, 2), of a number", x.turn(5, 2), 1);
        weights(x, 5, 0, 7);
        due("turn(5, 7), of 0", x.turn(5, 7), 1);
        weights(x, 5);
        due("put(5, 3, 2, 1)", x.put(5, 3, 2, 1), 1);
        due("turn(5, 5), of p(2)", x.turn(5, 5), 1);
        weights(x, 5, 2, -1);
        x = filled();
        // m(1 1) is e(2), turned h(2): m(2) + m(1 1)
        due("put(3, 0, 3, 1000)", x.put(3, 0, 3, 1000), 1);
        due("add(4, 3, 100)", x.add(4, 3, 100), 1);
        due("turn(5, 4)", x.turn(5, 4), 1);
        weights(x, 5, 2, 100000, 3, 100000);
        // m(2), taken off, is p(2), turned -p(2): that makes 200000 times m(2).
        due("put(3, 0, 2, 1000)", x.put(3, 0, 2, 1000), 1);
        due("add(4, 3, -100)", x.add(4, 3, -100), 1);
        due("turn(0, 4)", x.turn(0, 4), -4);
        x.put(4, 0, 0, 0);
        for (int no : NO_SLOT) {
            due("turn(" + no + ", 0)", x.turn(no, 0), -1);
            due("turn(0, " + no + ")", x.turn(0, no), -1);
        }
        weights(x, 0, 5, 1, 6, 2);
    }

    private static void strip() {
        promise = 16;
        BasisMoves x = filled();
        due("strip(3, 1, 0)", x.strip(3, 1, 0), 1);
        due("next(3, 4, 0)", x.next(3, 4, 0), 2);
        due("coefficient(3, 4, 2, 0)", x.coefficient(3, 4, 2, 0), 1);
        due("coefficient(3, 4, 3, 0)", x.coefficient(3, 4, 3, 0), 1);
        due("next(3, 4, 4)", x.next(3, 4, 4), -6);
        due("strip(3, 0, 1), of a lower degree", x.strip(3, 0, 1), 1);
        weights(x, 3);
        due("strip(3, 0, 0)", x.strip(3, 0, 0), 1);
        weights(x, 3, 0, 1);
        due("strip(3, 2, 0)", x.strip(3, 2, 0), 1);
        weights(x, 3, 5, 7, 6, 14);
        due("strip(3, 7, 0), of 0", x.strip(3, 7, 0), 1);
        weights(x, 3);
        // s(3 2 1) stripped of s(2 1): s(3) + 2 s(2 1) + s(1 1 1)
        due("put(3, 4, 24, 1)", x.put(3, 4, 24, 1), 1);
        due("strip(3, 0, 3)", x.strip(3, 0, 3), 1);
        due("coefficient(3, 4, 4, 0)", x.coefficient(3, 4, 4, 0), 1);
        due("coefficient(3, 4, 5, 0)", x.coefficient(3, 4, 5, 0), 2);
        due("coefficient(3, 4, 6, 0)", x.coefficient(3, 4, 6, 0), 1);
        due("next(3, 4, 7)", x.next(3, 4, 7), -6);
        // s(2 1) stripped of h(1) + 7: s(2) + s(1 1) + 7 s(2 1)
        due("add(1, 2, 1)", x.add(1, 2, 1), 1);
        due("strip(1, 1, 0)", x.strip(1, 1, 0), 1);
        weights(x, 1, 2, 1, 3, 2, 5, 7, 6, 14);
        x = filled();
        due("put(3, 3, 6, 1000)", x.put(3, 3, 6, 1000), 1);
        due("strip(0, 3, 3), 6000000", x.strip(0, 3, 3), -4);
        x.put(3, 0, 0, 0);
        isStillFilled(x);
        wrongSlots(1);
    }

    private static void meet() {
        promise = 17;
        BasisMoves x = filled();
        int[] zs = {1, 1, 2, 2, 3, 2, 6, 4, 3, 8, 4, 24, 5, 4, 6, 6, 8, 12, 120, 6, 5, 8, 8, 18, 6, 18, 48, 16, 48};
        for (int c = 0; c < zs.length; c++) {
            due("put", x.put(3, 3, c, 2), 1);
            due("meet(4, 3, 3)", x.meet(4, 3, 3), 1);
            due("next(4, 3, 0)", x.next(4, 3, 0), c);
            fraction(x, 4, 3, c, 4 * zs[c], 1);
            due("next(4, 3, " + (c + 1) + ")", x.next(4, 3, c + 1), -6);
            due("put", x.put(5, 3, (c + 1) % 29, 2), 1);
            due("meet(5, 3, 5)", x.meet(5, 3, 5), 1);
            due("degree(5)", x.degree(5), -6);
        }
        x = filled();
        // s(2 1) with itself: s(3) + s(2 1) + s(1 1 1); by parts with 7 and others
        due("add(2, 0, 1)", x.add(2, 0, 1), 1);
        due("meet(2, 2, 2)", x.meet(2, 2, 2), 1);
        for (int a = 0; a < 30; a++) {
            due("coefficient(2, 4, " + a + ", 0)", x.coefficient(2, 4, a, 0), a == 0 ? 49 : a >= 4 && a <= 6 ? 1 : 0);
        }
        due("meet(0, 0, 1), of unlike degrees", x.meet(0, 0, 1), 1);
        weights(x, 0);
        x = filled();
        due("put(3, 3, 29, 138)", x.put(3, 3, 29, 138), 1);
        due("meet(0, 3, 3)", x.meet(0, 3, 3), -4);
        x.put(3, 0, 0, 0);
        isStillFilled(x);
        wrongSlots(2);
    }

    private static void plug() {
        promise = 18;
        BasisMoves x = filled();
        // h(2) plugged with h(2): s(4) + s(2 2); e(2) with h(2): s(3 1)
        due("put(3, 2, 2, 1)", x.put(3, 2, 2, 1), 1);
        due("put(4, 1, 2, 1)", x.put(4, 1, 2, 1), 1);
        due("plug(5, 3, 3)", x.plug(5, 3, 3), 1);
        due("next(5, 4, 0)", x.next(5, 4, 0), 7);
        due("next(5, 4, 8)", x.next(5, 4, 8), 9);
        due("next(5, 4, 10)", x.next(5, 4, 10), -6);
        due("plug(5, 4, 3)", x.plug(5, 4, 3), 1);
        due("next(5, 4, 0)", x.next(5, 4, 0), 8);
        due("next(5, 4, 9)", x.next(5, 4, 9), -6);
        // signs stay with the numbers: p(2) plugged with -3 m(1) + 2 is -3 m(2) + 2
        due("put(5, 0, 1, -3)", x.put(5, 0, 1, -3), 1);
        due("put(6, 0, 0, 2)", x.put(6, 0, 0, 2), 1);
        due("add(5, 6, 1)", x.add(5, 6, 1), 1);
        due("put(6, 3, 2, 1)", x.put(6, 3, 2, 1), 1);
        due("plug(5, 6, 5)", x.plug(5, 6, 5), 1);
        weights(x, 5, 2, -3, 0, 2);
        // of a number, and with one
        due("plug(6, 2, 0)", x.plug(6, 2, 0), 1);
        weights(x, 6, 0, 7);
        due("plug(6, 0, 2), s(2 1) with 7", x.plug(6, 0, 2), 1);
        weights(x, 6, 0, 112);
        due("plug(6, 0, 7), with 0", x.plug(6, 0, 7), 1);
        weights(x, 6);
        due("plug(6, 7, 0), of 0", x.plug(6, 7, 0), 1);
        weights(x, 6);
        due("plug(1, 1, 0), of h(1)", x.plug(1, 1, 0), 1);
        weights(x, 1, 5, 1, 6, 2);
        plugRefused();
        wrongSlots(3);
    }

    private static void plugRefused() {
        BasisMoves x = filled();
        due("put(3, 0, 29, 10)", x.put(3, 0, 29, 10), 1);
        due("plug(0, 1, 3), 10 in the second", x.plug(0, 1, 3), -3);
        due("plug(0, 7, 3), 10 in the second, 0 in the first", x.plug(0, 7, 3), -3);
        due("plug(0, 0, 3), 10 and degrees", x.plug(0, 0, 3), -3);
        due("put(3, 0, 29, -10)", x.put(3, 0, 29, -10), 1);
        due("plug(0, 1, 3), -10 in the second", x.plug(0, 1, 3), -3);
        due("put(3, 0, 29, 9)", x.put(3, 0, 29, 9), 1);
        due("plug(3, 1, 3), 9 in the second", x.plug(3, 1, 3), 1);
        due("put(3, 0, 29, -9)", x.put(3, 0, 29, -9), 1);
        due("plug(3, 1, 3), -9 in the second", x.plug(3, 1, 3), 1);
        due("put(3, 0, 1, 1000)", x.put(3, 0, 1, 1000), 1);
        due("plug(4, 3, 1), 1000 in the first", x.plug(4, 3, 1), 1);
        weights(x, 4, 1, 1000);
        due("plug(4, 3, 2), 7000", x.plug(4, 3, 2), 1);
        weights(x, 4, 0, 7000);
        due("add(3, 1, 1)", x.add(3, 1, 1), 1);
        due("plug(0, 3, 1), 1001 in the first", x.plug(0, 3, 1), -3);
        due("add(3, 3, -2)", x.add(3, 3, -2), 1);
        due("plug(0, 3, 1), -1001 in the first", x.plug(0, 3, 1), -3);
        due("add(3, 1, 1)", x.add(3, 1, 1), 1);
        due("plug(4, 3, 1), -1000 in the first", x.plug(4, 3, 1), 1);
        due("plug(0, 0, 0), degrees 3 and 3", x.plug(0, 0, 0), -4);
        due("put(3, 4, 2, 1)", x.put(3, 4, 2, 1), 1);
        due("plug(4, 0, 3), degrees 3 and 2", x.plug(4, 0, 3), 1);
        due("degree(4)", x.degree(4), 6);
        due("put(3, 4, 7, 1)", x.put(3, 4, 7, 1), 1);
        due("plug(0, 3, 3), degrees 4 and 4", x.plug(0, 3, 3), -4);
        due("put(3, 2, 19, 1000)", x.put(3, 2, 19, 1000), 1);
        due("plug(0, 3, 2), 1000 times h(6) with 7", x.plug(0, 3, 2), -4);
        due("put(3, 2, 19, 1)", x.put(3, 2, 19, 1), 1);
        due("plug(4, 3, 2), h(6) with 7", x.plug(4, 3, 2), 1);
        weights(x, 4, 0, 924);
        due("put(5, 0, 0, -7)", x.put(5, 0, 0, -7), 1);
        due("plug(4, 3, 5), h(6) with -7", x.plug(4, 3, 5), 1);
        weights(x, 4, 0, 7);
        for (int slot = 3; slot < 6; slot++) {
            x.put(slot, 0, 0, 0);
        }
        isStillFilled(x);
    }

    private static void image() {
        promise = 19;
        BasisMoves x = filled();
        due("image(1)", x.image(1), 1);
        due("count(1)", x.count(1), 2);
        isStillFilled(x);
        due("put(0, 0, 1, 5)", x.put(0, 0, 1, 5), 1);
        due("image(0)", x.image(0), 1);
        due("count(1)", x.count(1), 3);
        due("restore(1)", x.restore(1), 1);
        isStillFilled(x);
        due("restore(0)", x.restore(0), 1);
        weights(x, 0, 1, 5);
        due("image(1), in place of what was kept", x.image(1), 1);
        due("put(0, 0, 0, 0)", x.put(0, 0, 0, 0), 1);
        due("restore(1)", x.restore(1), 1);
        weights(x, 0, 1, 5);
        x = new BasisMoves();
        due("image(0), of nothing but 0", x.image(0), 1);
        due("count(1)", x.count(1), 1);
        due("restore(0)", x.restore(0), 1);
        due("restore(1)", x.restore(1), -3);
        for (int no : new int[] {-1, 2, Integer.MAX_VALUE, Integer.MIN_VALUE, 1 << 29}) {
            due("image(" + no + ")", x.image(no), -2);
            due("restore(" + no + ")", x.restore(no), -2);
        }
        due("count(1)", x.count(1), 1);
    }

    private static void restore() {
        promise = 20;
        BasisMoves x = filled();
        due("restore(0), nothing kept", x.restore(0), -3);
        isStillFilled(x);
        due("image(0)", x.image(0), 1);
        for (int slot = 0; slot < 8; slot++) {
            due("put", x.put(slot, 4, 29 - slot, slot + 1), 1);
        }
        due("restore(1), nothing kept", x.restore(1), -3);
        due("count(0)", x.count(0), 8);
        due("restore(0)", x.restore(0), 1);
        isStillFilled(x);
        due("add(0, 0, 1)", x.add(0, 0, 1), 1);
        due("times(7, 1, 1)", x.times(7, 1, 1), 1);
        due("restore(0), the image stays", x.restore(0), 1);
        isStillFilled(x);
        due("degree(7)", x.degree(7), -6);
        due("count(1)", x.count(1), 1);
    }

    private static void count() {
        promise = 21;
        BasisMoves x = new BasisMoves();
        int[] many = {1, 1, 2, 3, 5, 7, 11};
        int[] first = {0, 1, 2, 4, 7, 12, 19};
        for (int d = 0; d <= 6; d++) {
            due("count(" + (10 + d) + ")", x.count(10 + d), many[d]);
            due("count(" + (20 + d) + ")", x.count(20 + d), first[d]);
        }
        for (int no : new int[] {-1, 2, 3, 9, 17, 18, 19, 27, 30, Integer.MAX_VALUE, Integer.MIN_VALUE}) {
            due("count(" + no + ")", x.count(no), -2);
        }
        for (int slot = 7; slot >= 0; slot--) {
            due("put", x.put(slot, 0, slot * 4, 1), 1);
            due("count(0)", x.count(0), 8 - slot);
        }
        due("put(3, 0, 0, 0)", x.put(3, 0, 0, 0), 1);
        due("add(4, 4, -1)", x.add(4, 4, -1), 1);
        due("count(0)", x.count(0), 6);
        due("count(1)", x.count(1), 0);
        due("image(1)", x.image(1), 1);
        due("count(1)", x.count(1), 2);
        due("image(0)", x.image(0), 1);
        due("count(1)", x.count(1), 3);
    }
}

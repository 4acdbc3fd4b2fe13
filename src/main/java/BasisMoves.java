import java.util.Arrays;

/**
 * Sums that stay the same however six variables are exchanged, held in eight slots by their
 * weights (the numbers before the monomials) and told in five bases.
 *
 * All work goes through two other rows of numbers: those before the s(a), and those before the
 * p(a). The latter are kept 720 times as great, since z of every partition divides 720: so every
 * number here is whole. No number on the way passes the bounds of a long: weights are at most
 * 100000, and the numbers before the p(a), 720 times as great, at most 760 millions.
 */
public final class BasisMoves {
    public static final int UNKNOWN = -1, OUTSIDE = -2, STATE = -3, FULL = -4, NONE = -6;
    public static final long GONE = -4000000000000000000L;

    private static final int SLOTS = 8;
    private static final int IMAGES = 2;
    private static final int PARTITIONS = 30;
    private static final int PLACES = 6;
    private static final int TOP_DEGREE = 6;
    private static final int COMMON = 720;
    private static final int GREATEST_WEIGHT = 100000;
    private static final int GREATEST_FACTOR = 1000;
    private static final int GREATEST_PLUGGED_INTO = 1000;
    private static final int GREATEST_PLUGGED_WITH = 9;
    private static final int FARTHEST_PLACE = 9;

    private static final int MONOMIAL = 0;
    private static final int ELEMENTARY = 1;
    private static final int COMPLETE = 2;
    private static final int POWER = 3;
    private static final int TABLEAU = 4;

    private final Partitions partitions = new Partitions();
    private final Bases bases = new Bases(partitions);
    private final Work work = new Work(partitions);
    private final long[][] held = new long[SLOTS][PARTITIONS];
    private final long[][] kept = new long[IMAGES * SLOTS][PARTITIONS];
    private final boolean[] hasImage = new boolean[IMAGES];
    private final long[] left = new long[PARTITIONS];
    private final long[] right = new long[PARTITIONS];
    private final long[] result = new long[PARTITIONS];

    public BasisMoves() {
    }

    // ---- 1 partitions

    public int part(int a, int k) {
        if (!isPartition(a)) {
            return UNKNOWN;
        }
        if (k < 0 || k >= PLACES) {
            return OUTSIDE;
        }
        return partitions.partAt(a, k);
    }

    public int about(int a, int what) {
        if (!isPartition(a)) {
            return UNKNOWN;
        }
        switch (what) {
            case 0:
                return partitions.degrees[a];
            case 1:
                return partitions.lengths[a];
            case 2:
                return partitions.conjugates[a];
            case 3:
                return partitions.zs[a];
            case 4:
                return partitions.kostkaOf(a, Partitions.endOf(partitions.degrees[a]) - 1);
            default:
                return OUTSIDE;
        }
    }

    public int kostka(int a, int b) {
        if (!isPartition(a) || !isPartition(b)) {
            return UNKNOWN;
        }
        return partitions.kostkaOf(a, b);
    }

    public int character(int a, int b) {
        if (!isPartition(a) || !isPartition(b)) {
            return UNKNOWN;
        }
        return partitions.characterOf(a, b) + 1000;
    }

    public int above(int a, int b) {
        if (!isPartition(a) || !isPartition(b)) {
            return UNKNOWN;
        }
        return partitions.isAbove(a, b) ? 1 : 0;
    }

    // ---- 2 sums

    public int put(int to, int base, int a, int n) {
        if (!isSlot(to) || !isBase(base) || !isPartition(a)) {
            return UNKNOWN;
        }
        if (!isWithin(n, GREATEST_FACTOR)) {
            return OUTSIDE;
        }
        Arrays.fill(left, 0L);
        left[a] = n;
        bases.toWeights(base, left, result);
        return hold(to);
    }

    public int add(int to, int from, int n) {
        if (!isSlot(to) || !isSlot(from)) {
            return UNKNOWN;
        }
        if (!isWithin(n, GREATEST_FACTOR)) {
            return OUTSIDE;
        }
        for (int a = 0; a < PARTITIONS; a++) {
            result[a] = held[to][a] + n * held[from][a];
        }
        return hold(to);
    }

    public int degree(int slot) {
        if (!isSlot(slot)) {
            return UNKNOWN;
        }
        return degreeOf(held[slot]);
    }

    public long coefficient(int slot, int base, int a, int what) {
        if (!isSlot(slot) || !isBase(base) || !isPartition(a)) {
            return GONE + UNKNOWN;
        }
        if (what != 0 && what != 1) {
            return GONE + OUTSIDE;
        }
        bases.fromWeights(base, held[slot], result);
        long lower = base == POWER ? COMMON : 1;
        long shared = commonDivisor(result[a], lower);
        if (shared == 0) {
            return 0;
        }
        return what == 0 ? result[a] / shared : lower / shared;
    }

    public int next(int slot, int base, int from) {
        if (!isSlot(slot) || !isBase(base)) {
            return UNKNOWN;
        }
        if (from < 0 || from > PARTITIONS) {
            return OUTSIDE;
        }
        bases.fromWeights(base, held[slot], result);
        for (int a = from; a < PARTITIONS; a++) {
            if (result[a] != 0) {
                return a;
            }
        }
        return NONE;
    }

    public long value(int slot, int x, int y, int z) {
        if (!isSlot(slot)) {
            return GONE + UNKNOWN;
        }
        if (!isWithin(x, FARTHEST_PLACE) || !isWithin(y, FARTHEST_PLACE)
                || !isWithin(z, FARTHEST_PLACE)) {
            return GONE + OUTSIDE;
        }
        return work.valueAt(held[slot], x, y, z);
    }

    public long scalar(int a, int b) {
        if (!isSlot(a) || !isSlot(b)) {
            return GONE + UNKNOWN;
        }
        bases.fromWeights(TABLEAU, held[a], left);
        bases.fromWeights(TABLEAU, held[b], right);
        return Work.scalarOf(left, right);
    }

    // ---- 3 work

    public int times(int to, int a, int b) {
        if (!isSlot(to) || !isSlot(a) || !isSlot(b)) {
            return UNKNOWN;
        }
        int degreeOfA = degreeOf(held[a]);
        int degreeOfB = degreeOf(held[b]);
        if (degreeOfA != NONE && degreeOfB != NONE && degreeOfA + degreeOfB > TOP_DEGREE) {
            return FULL;
        }
        readPowers(a, b);
        work.multiply(left, right, result);
        return holdPowers(to);
    }

    public int turn(int to, int a) {
        if (!isSlot(to) || !isSlot(a)) {
            return UNKNOWN;
        }
        bases.fromWeights(ELEMENTARY, held[a], left);
        bases.toWeights(COMPLETE, left, result);
        return hold(to);
    }

    public int strip(int to, int a, int b) {
        if (!isSlot(to) || !isSlot(a) || !isSlot(b)) {
            return UNKNOWN;
        }
        readPowers(a, b);
        work.stripOff(left, right, result);
        return holdPowers(to);
    }

    public int meet(int to, int a, int b) {
        if (!isSlot(to) || !isSlot(a) || !isSlot(b)) {
            return UNKNOWN;
        }
        readPowers(a, b);
        work.meetWith(left, right, result);
        return holdPowers(to);
    }

    public int plug(int to, int a, int b) {
        if (!isSlot(to) || !isSlot(a) || !isSlot(b)) {
            return UNKNOWN;
        }
        if (!areWithin(held[a], GREATEST_PLUGGED_INTO)
                || !areWithin(held[b], GREATEST_PLUGGED_WITH)) {
            return STATE;
        }
        int degreeOfA = degreeOf(held[a]);
        int degreeOfB = degreeOf(held[b]);
        if (degreeOfA > 0 && degreeOfB > 0 && degreeOfA * degreeOfB > TOP_DEGREE) {
            return FULL;
        }
        readPowers(a, b);
        work.plugWith(left, right, result);
        return holdPowers(to);
    }

    // ---- 4 images

    public int image(int k) {
        if (k < 0 || k >= IMAGES) {
            return OUTSIDE;
        }
        for (int slot = 0; slot < SLOTS; slot++) {
            System.arraycopy(held[slot], 0, kept[k * SLOTS + slot], 0, PARTITIONS);
        }
        hasImage[k] = true;
        return 1;
    }

    public int restore(int k) {
        if (k < 0 || k >= IMAGES) {
            return OUTSIDE;
        }
        if (!hasImage[k]) {
            return STATE;
        }
        for (int slot = 0; slot < SLOTS; slot++) {
            System.arraycopy(kept[k * SLOTS + slot], 0, held[slot], 0, PARTITIONS);
        }
        return 1;
    }

    public int count(int what) {
        if (what == 0) {
            return filledSlots();
        }
        if (what == 1) {
            return (hasImage[0] ? 1 : 0) + (hasImage[1] ? 2 : 0);
        }
        if (what >= 10 && what <= 10 + TOP_DEGREE) {
            return Partitions.endOf(what - 10) - Partitions.startOf(what - 10);
        }
        if (what >= 20 && what <= 20 + TOP_DEGREE) {
            return Partitions.startOf(what - 20);
        }
        return OUTSIDE;
    }

    // ---- what the calls share

    private static boolean isSlot(int slot) {
        return slot >= 0 && slot < SLOTS;
    }

    private static boolean isBase(int base) {
        return base >= MONOMIAL && base <= TABLEAU;
    }

    private static boolean isPartition(int a) {
        return a >= 0 && a < PARTITIONS;
    }

    private static boolean isWithin(long number, long bound) {
        return number >= -bound && number <= bound;
    }

    private static boolean areWithin(long[] numbers, long bound) {
        for (long number : numbers) {
            if (!isWithin(number, bound)) {
                return false;
            }
        }
        return true;
    }

    private int degreeOf(long[] weights) {
        // Partitions are numbered by rising degrees: the last one that counts has the greatest.
        for (int a = PARTITIONS - 1; a >= 0; a--) {
            if (weights[a] != 0) {
                return partitions.degrees[a];
            }
        }
        return NONE;
    }

    private int filledSlots() {
        int filled = 0;
        for (int slot = 0; slot < SLOTS; slot++) {
            if (degreeOf(held[slot]) != NONE) {
                filled++;
            }
        }
        return filled;
    }

    private void readPowers(int a, int b) {
        bases.fromWeights(POWER, held[a], left);
        bases.fromWeights(POWER, held[b], right);
    }

    private int holdPowers(int to) {
        System.arraycopy(result, 0, left, 0, PARTITIONS);
        bases.toWeights(POWER, left, result);
        Work.divideByCommon(result);
        return hold(to);
    }

    private int hold(int to) {
        if (!areWithin(result, GREATEST_WEIGHT)) {
            return FULL;
        }
        System.arraycopy(result, 0, held[to], 0, PARTITIONS);
        return 1;
    }

    private static long commonDivisor(long one, long other) {
        long greater = Math.abs(one);
        long less = Math.abs(other);
        // Each two steps at least halve the lesser one, so a hundred are more than a long needs.
        for (int step = 0; step < 100 && less != 0; step++) {
            long rest = greater % less;
            greater = less;
            less = rest;
        }
        return greater;
    }

    /** The thirty partitions by their numbers, and the tables that tell how they go together. */
    private static final class Partitions {
        private static final int[] STARTS = {0, 1, 2, 4, 7, 12, 19, 30};

        private static final int[] PARTS = {
            0, 0, 0, 0, 0, 0,
            1, 0, 0, 0, 0, 0,
            2, 0, 0, 0, 0, 0,
            1, 1, 0, 0, 0, 0,
            3, 0, 0, 0, 0, 0,
            2, 1, 0, 0, 0, 0,
            1, 1, 1, 0, 0, 0,
            4, 0, 0, 0, 0, 0,
            3, 1, 0, 0, 0, 0,
            2, 2, 0, 0, 0, 0,
            2, 1, 1, 0, 0, 0,
            1, 1, 1, 1, 0, 0,
            5, 0, 0, 0, 0, 0,
            4, 1, 0, 0, 0, 0,
            3, 2, 0, 0, 0, 0,
            3, 1, 1, 0, 0, 0,
            2, 2, 1, 0, 0, 0,
            2, 1, 1, 1, 0, 0,
            1, 1, 1, 1, 1, 0,
            6, 0, 0, 0, 0, 0,
            5, 1, 0, 0, 0, 0,
            4, 2, 0, 0, 0, 0,
            4, 1, 1, 0, 0, 0,
            3, 3, 0, 0, 0, 0,
            3, 2, 1, 0, 0, 0,
            3, 1, 1, 1, 0, 0,
            2, 2, 2, 0, 0, 0,
            2, 2, 1, 1, 0, 0,
            2, 1, 1, 1, 1, 0,
            1, 1, 1, 1, 1, 1,
        };

        private final int[] degrees = new int[PARTITIONS];
        private final int[] lengths = new int[PARTITIONS];
        private final int[] marks = new int[PARTITIONS];
        private final int[] conjugates = new int[PARTITIONS];
        private final int[] zs = new int[PARTITIONS];
        private final int[] joins = new int[PARTITIONS * PARTITIONS];
        private final int[] kostkas = new int[PARTITIONS * PARTITIONS];
        private final int[] characters = new int[PARTITIONS * PARTITIONS];

        private Partitions() {
            for (int a = 0; a < PARTITIONS; a++) {
                measure(a);
            }
            for (int a = 0; a < PARTITIONS; a++) {
                conjugates[a] = findConjugate(a);
                for (int b = 0; b < PARTITIONS; b++) {
                    joins[a * PARTITIONS + b] = numberOf(marks[a] + marks[b], degrees[a] + degrees[b]);
                }
            }
            kostkas[0] = 1;
            characters[0] = 1;
            for (int b = 1; b < PARTITIONS; b++) {
                fillColumn(b);
            }
        }

        private static int startOf(int degree) {
            return degree >= 0 && degree <= TOP_DEGREE ? STARTS[degree] : 0;
        }

        private static int endOf(int degree) {
            return degree >= 0 && degree <= TOP_DEGREE ? STARTS[degree + 1] : 0;
        }

        private static boolean isPlace(int k) {
            return k >= 0 && k < PLACES;
        }

        private int partAt(int a, int k) {
            return isPartition(a) && isPlace(k) ? PARTS[a * PLACES + k] : 0;
        }

        /** Marks of parts, added, tell a row of parts in whatever order: at most six of each. */
        private static int markOf(int part) {
            return part > 0 && part <= TOP_DEGREE ? 1 << (3 * (part - 1)) : 0;
        }

        /** The partition of a degree whose parts' marks are that much together; -1: none. */
        private int numberOf(int mark, int degree) {
            int end = endOf(degree);
            for (int a = startOf(degree); a < end; a++) {
                if (marks[a] == mark) {
                    return a;
                }
            }
            return -1;
        }

        private void measure(int a) {
            int alike = 0;
            zs[a] = 1;
            for (int k = 0; k < PLACES && partAt(a, k) > 0; k++) {
                int part = partAt(a, k);
                alike = k > 0 && partAt(a, k - 1) == part ? alike + 1 : 1;
                degrees[a] += part;
                lengths[a]++;
                marks[a] += markOf(part);
                zs[a] *= part * alike;
            }
        }

        private int findConjugate(int a) {
            int mark = 0;
            for (int k = 1; k <= TOP_DEGREE; k++) {
                int noLess = 0;
                for (int i = 0; i < PLACES; i++) {
                    if (partAt(a, i) >= k) {
                        noLess++;
                    }
                }
                mark += markOf(noLess);
            }
            return numberOf(mark, degrees[a]);
        }

        /** The partition that has all parts of both; -1: its degree is above 6. */
        private int joined(int a, int b) {
            return isPartition(a) && isPartition(b) ? joins[a * PARTITIONS + b] : -1;
        }

        /** The partition whose parts are k times those of another one; -1: its degree is above 6. */
        private int multiplied(int a, int k) {
            int mark = 0;
            int degree = 0;
            for (int i = 0; i < PLACES; i++) {
                mark += markOf(k * partAt(a, i));
                degree += k * partAt(a, i);
            }
            return numberOf(mark, degree);
        }

        private int kostkaOf(int a, int b) {
            return isPartition(a) && isPartition(b) ? kostkas[a * PARTITIONS + b] : 0;
        }

        private int characterOf(int a, int b) {
            return isPartition(a) && isPartition(b) ? characters[a * PARTITIONS + b] : 0;
        }

        private boolean isAbove(int a, int b) {
            if (degrees[a] != degrees[b]) {
                return false;
            }
            int ahead = 0;
            for (int k = 0; k < PLACES; k++) {
                ahead += partAt(a, k) - partAt(b, k);
                if (ahead < 0) {
                    return false;
                }
            }
            return true;
        }

        /**
         * Both tables go from b without its last part to b: the boxes of the greatest number are
         * no two in one column; a character takes off strips along the rim, with signs.
         */
        private void fillColumn(int b) {
            int last = partAt(b, lengths[b] - 1);
            int less = degrees[b] - last;
            int shorter = numberOf(marks[b] - markOf(last), less);
            for (int a = startOf(degrees[b]); a < endOf(degrees[b]); a++) {
                int fillings = 0;
                int signed = 0;
                for (int c = startOf(less); c < endOf(less); c++) {
                    fillings += isRowStrip(a, c) ? kostkaOf(c, shorter) : 0;
                    signed += rimSign(a, c) * characterOf(c, shorter);
                }
                kostkas[a * PARTITIONS + b] = fillings;
                characters[a * PARTITIONS + b] = signed;
            }
        }

        /** Whether the boxes of c are among those of a, and no two others are in one column. */
        private boolean isRowStrip(int a, int c) {
            for (int k = 0; k < PLACES; k++) {
                if (partAt(c, k) > partAt(a, k) || partAt(c, k) < partAt(a, k + 1)) {
                    return false;
                }
            }
            return true;
        }

        /**
         * If a without c is one strip along the rim (in one piece, with no square of four boxes):
         * 1, or -1 if it is in an even number of rows; else 0.
         */
        private int rimSign(int a, int c) {
            int top = PLACES;
            int bottom = -1;
            for (int k = 0; k < PLACES; k++) {
                if (partAt(c, k) > partAt(a, k)) {
                    return 0;
                }
                if (partAt(c, k) < partAt(a, k)) {
                    top = Math.min(top, k);
                    bottom = k;
                }
            }
            for (int k = top; k < bottom; k++) {
                if (partAt(c, k) != partAt(a, k + 1) - 1) {
                    return 0;
                }
            }
            return (bottom - top) % 2 == 0 ? 1 : -1;
        }
    }

    /** Moves between weights and the numbers before the members of a base. */
    private static final class Bases {
        private final Partitions partitions;
        private final long[] tableaux = new long[PARTITIONS];
        private final long[] turned = new long[PARTITIONS];

        private Bases(Partitions partitions) {
            this.partitions = partitions;
        }

        /** The numbers before the members of a base; before the p(a) they are 720 times as great. */
        private void fromWeights(int base, long[] weights, long[] numbers) {
            if (base == MONOMIAL) {
                System.arraycopy(weights, 0, numbers, 0, PARTITIONS);
                return;
            }
            weightsToTableaux(weights, tableaux);
            if (base == ELEMENTARY) {
                conjugate(tableaux, turned);
                tableauxToCompletes(turned, numbers);
            } else if (base == COMPLETE) {
                tableauxToCompletes(tableaux, numbers);
            } else if (base == POWER) {
                tableauxToPowers(tableaux, numbers);
            } else {
                System.arraycopy(tableaux, 0, numbers, 0, PARTITIONS);
            }
        }

        /** The weights of numbers times members of a base, these being just the numbers given. */
        private void toWeights(int base, long[] numbers, long[] weights) {
            if (base == MONOMIAL) {
                System.arraycopy(numbers, 0, weights, 0, PARTITIONS);
                return;
            }
            if (base == ELEMENTARY) {
                completesToTableaux(numbers, turned);
                conjugate(turned, tableaux);
            } else if (base == COMPLETE) {
                completesToTableaux(numbers, tableaux);
            } else if (base == POWER) {
                powersToTableaux(numbers, tableaux);
            } else {
                System.arraycopy(numbers, 0, tableaux, 0, PARTITIONS);
            }
            tableauxToWeights(tableaux, weights);
        }

        private int startFor(int a) {
            return Partitions.startOf(partitions.degrees[a]);
        }

        private int endFor(int a) {
            return Partitions.endOf(partitions.degrees[a]);
        }

        private void tableauxToWeights(long[] numbers, long[] weights) {
            for (int b = 0; b < PARTITIONS; b++) {
                long sum = 0;
                for (int a = startFor(b); a <= b; a++) {
                    sum += numbers[a] * partitions.kostkaOf(a, b);
                }
                weights[b] = sum;
            }
        }

        private void weightsToTableaux(long[] weights, long[] numbers) {
            // K of a and b is 0 where a comes after b, and 1 where they are the same.
            for (int b = 0; b < PARTITIONS; b++) {
                long rest = weights[b];
                for (int a = startFor(b); a < b; a++) {
                    rest -= numbers[a] * partitions.kostkaOf(a, b);
                }
                numbers[b] = rest;
            }
        }

        private void completesToTableaux(long[] completes, long[] numbers) {
            // h(b) is the sum of K of a and b times s(a).
            for (int a = 0; a < PARTITIONS; a++) {
                long sum = 0;
                for (int b = a; b < endFor(a); b++) {
                    sum += completes[b] * partitions.kostkaOf(a, b);
                }
                numbers[a] = sum;
            }
        }

        private void tableauxToCompletes(long[] numbers, long[] completes) {
            for (int a = PARTITIONS - 1; a >= 0; a--) {
                long rest = numbers[a];
                for (int b = a + 1; b < endFor(a); b++) {
                    rest -= completes[b] * partitions.kostkaOf(a, b);
                }
                completes[a] = rest;
            }
        }

        private void powersToTableaux(long[] powers, long[] numbers) {
            for (int a = 0; a < PARTITIONS; a++) {
                long sum = 0;
                for (int b = startFor(a); b < endFor(a); b++) {
                    sum += powers[b] * partitions.characterOf(a, b);
                }
                numbers[a] = sum;
            }
        }

        private void tableauxToPowers(long[] numbers, long[] powers) {
            for (int b = 0; b < PARTITIONS; b++) {
                long sum = 0;
                for (int a = startFor(b); a < endFor(b); a++) {
                    sum += numbers[a] * partitions.characterOf(a, b);
                }
                int z = partitions.zs[b];
                powers[b] = z > 0 ? sum * (COMMON / z) : 0;
            }
        }

        private void conjugate(long[] numbers, long[] conjugated) {
            for (int a = 0; a < PARTITIONS; a++) {
                int to = partitions.conjugates[a];
                if (isPartition(to)) {
                    conjugated[to] = numbers[a];
                }
            }
        }
    }

    /** Work on sums told by the numbers before the p(a), 720 times as great, as the results are. */
    private static final class Work {
        private final Partitions partitions;
        private final long[][] stretched = new long[TOP_DEGREE + 1][PARTITIONS];
        private final long[] product = new long[PARTITIONS];
        private final long[] longer = new long[PARTITIONS];

        private Work(Partitions partitions) {
            this.partitions = partitions;
        }

        /** Of numbers before the s(a): these are of scalar 1 with themselves, 0 with others. */
        private static long scalarOf(long[] one, long[] other) {
            long sum = 0;
            for (int a = 0; a < PARTITIONS; a++) {
                sum += one[a] * other[a];
            }
            return sum;
        }

        private void multiply(long[] one, long[] other, long[] to) {
            Arrays.fill(to, 0L);
            for (int a = 0; a < PARTITIONS; a++) {
                if (one[a] != 0) {
                    addJoined(a, one[a], other, to);
                }
            }
            divideByCommon(to);
        }

        private void addJoined(int a, long number, long[] other, long[] to) {
            int end = Partitions.endOf(TOP_DEGREE - partitions.degrees[a]);
            for (int b = 0; b < end; b++) {
                int both = partitions.joined(a, b);
                if (isPartition(both)) {
                    to[both] += number * other[b];
                }
            }
        }

        /** Only where what the numbers make is whole, so that nothing is lost. */
        private static void divideByCommon(long[] numbers) {
            for (int a = 0; a < PARTITIONS; a++) {
                numbers[a] /= COMMON;
            }
        }

        /** Scalar of p(a) and a sum, which is z of a times the number before p(a): it is whole. */
        private long scalarWithPower(int a, long[] numbers) {
            return numbers[a] * partitions.zs[a] / COMMON;
        }

        private void stripOff(long[] off, long[] from, long[] to) {
            for (int c = 0; c < PARTITIONS; c++) {
                // 720 times the scalar of p(c) and what is left: z of c too great for a number.
                long sum = scalarWithProduct(c, off, from);
                int z = partitions.zs[c];
                to[c] = z > 0 ? sum / z : 0;
            }
        }

        /** 720 times the scalar of p(c) times one sum, and another one. */
        private long scalarWithProduct(int c, long[] factor, long[] numbers) {
            long sum = 0;
            int end = Partitions.endOf(TOP_DEGREE - partitions.degrees[c]);
            for (int d = 0; d < end; d++) {
                int both = partitions.joined(c, d);
                if (isPartition(both)) {
                    sum += factor[d] * scalarWithPower(both, numbers);
                }
            }
            return sum;
        }

        private void meetWith(long[] one, long[] other, long[] to) {
            for (int c = 0; c < PARTITIONS; c++) {
                to[c] = one[c] * scalarWithPower(c, other);
            }
        }

        private void plugWith(long[] into, long[] with, long[] to) {
            for (int k = 1; k <= TOP_DEGREE; k++) {
                stretch(with, k, stretched[k]);
            }
            Arrays.fill(to, 0L);
            for (int c = 0; c < PARTITIONS; c++) {
                if (into[c] != 0) {
                    plugPower(c);
                    for (int d = 0; d < PARTITIONS; d++) {
                        to[d] += into[c] * product[d];
                    }
                }
            }
            divideByCommon(to);
        }

        /** Leaves p(c), plugged with the sum that has been stretched, in product. */
        private void plugPower(int c) {
            Arrays.fill(product, 0L);
            product[0] = COMMON;
            for (int i = 0; i < partitions.lengths[c]; i++) {
                int part = partitions.partAt(c, i);
                if (part > 0 && part <= TOP_DEGREE) {
                    multiply(stretched[part], product, longer);
                    System.arraycopy(longer, 0, product, 0, PARTITIONS);
                }
            }
        }

        /** A sum with the k-th power of each variable in its place: p(a) becomes p of k times a. */
        private void stretch(long[] numbers, int k, long[] to) {
            Arrays.fill(to, 0L);
            for (int a = 0; a < PARTITIONS; a++) {
                int stretchedTo = partitions.multiplied(a, k);
                if (isPartition(stretchedTo)) {
                    to[stretchedTo] = numbers[a];
                }
            }
        }

        /** Of weights, by the definition: each row of three exponents stands once in one m(a). */
        private long valueAt(long[] weights, long x, long y, long z) {
            long sum = 0;
            for (int i = 0; i <= TOP_DEGREE; i++) {
                for (int j = 0; i + j <= TOP_DEGREE; j++) {
                    for (int k = 0; i + j + k <= TOP_DEGREE; k++) {
                        int mark = Partitions.markOf(i) + Partitions.markOf(j) + Partitions.markOf(k);
                        int a = partitions.numberOf(mark, i + j + k);
                        if (isPartition(a) && weights[a] != 0) {
                            sum += weights[a] * powerOf(x, i) * powerOf(y, j) * powerOf(z, k);
                        }
                    }
                }
            }
            return sum;
        }

        private static long powerOf(long number, int exponent) {
            long power = 1;
            for (int i = 0; i < exponent; i++) {
                power *= number;
            }
            return power;
        }
    }
}

import java.util.ArrayList;
import java.util.Arrays;
import java.util.List;

/**
 * The document over again, as slowly and as near to its words as can be: sums are fractions before
 * monomials, products go by exponents, tableaux are filled box by box, bases are left by solving
 * equations. It shares nothing with the class but the document.
 */
final class Reference {
    static final int UNKNOWN = -1, OUTSIDE = -2, STATE = -3, FULL = -4, NONE = -6;
    static final long GONE = -4000000000000000000L;
    static final int N = 30;

    /** What does not depend on a run: made once. */
    static final int[][] PARTITIONS = listPartitions();
    /** SPLITS[c]: pairs of partitions, once for each way to split the exponents c in two rows. */
    private static final int[][] SPLITS = listSplits();
    static final long[][] KOSTKA = fillKostka();
    /** MEMBERS[base][a]: the weights of a member. */
    static final Fraction[][][] MEMBERS = listMembers();
    /** BACK[base][b][a]: the number before the member a in m(b). */
    private static final Fraction[][][] BACK = invertAll();

    private Fraction[][] held = new Fraction[8][];
    private final Fraction[][][] kept = new Fraction[2][][];

    Reference() {
        for (int i = 0; i < 8; i++) {
            held[i] = zero();
        }
    }

    // ---- partitions

    private static int[][] listPartitions() {
        List<int[]> all = new ArrayList<>();
        for (int degree = 0; degree <= 6; degree++) {
            extend(new int[6], 0, degree, degree, all);
        }
        all.sort((one, other) -> {
            int byDegree = Integer.compare(sum(one), sum(other));
            for (int i = 0; i < 6 && byDegree == 0; i++) {
                byDegree = Integer.compare(other[i], one[i]);
            }
            return byDegree;
        });
        return all.toArray(new int[0][]);
    }

    private static void extend(int[] parts, int at, int left, int most, List<int[]> all) {
        if (left == 0) {
            all.add(parts.clone());
            return;
        }
        for (int part = 1; part <= Math.min(left, most) && at < 6; part++) {
            parts[at] = part;
            extend(parts, at + 1, left - part, part, all);
            parts[at] = 0;
        }
    }

    static int sum(int[] row) {
        int sum = 0;
        for (int one : row) {
            sum += one;
        }
        return sum;
    }

    /** The partition of a row of exponents in whatever order; -1: its degree is above 6. */
    static int numberOf(int... exponents) {
        int[] row = Arrays.copyOf(exponents, Math.max(6, exponents.length));
        Arrays.sort(row);
        int[] falling = new int[6];
        for (int i = 0; i < 6; i++) {
            falling[i] = row[row.length - 1 - i];
        }
        for (int a = 0; a < N; a++) {
            if (Arrays.equals(falling, PARTITIONS[a]) && sum(row) == sum(falling)) {
                return a;
            }
        }
        return -1;
    }

    static int conjugate(int a) {
        int[] parts = new int[6];
        for (int k = 1; k <= 6; k++) {
            for (int part : PARTITIONS[a]) {
                parts[k - 1] += part >= k ? 1 : 0;
            }
        }
        return numberOf(parts);
    }

    static long z(int a) {
        long z = 1;
        for (int k = 1; k <= 6; k++) {
            long factorial = 1;
            int many = 0;
            for (int part : PARTITIONS[a]) {
                if (part == k) {
                    z *= k;
                    many++;
                    factorial *= many;
                }
            }
            z *= factorial;
        }
        return z;
    }

    private static long[][] fillKostka() {
        long[][] table = new long[N][N];
        for (int a = 0; a < N; a++) {
            for (int b = 0; b < N; b++) {
                if (sum(PARTITIONS[a]) == sum(PARTITIONS[b])) {
                    table[a][b] = fillings(PARTITIONS[a], new int[6][6], 0, 0, PARTITIONS[b].clone());
                }
            }
        }
        return table;
    }

    private static long fillings(int[] shape, int[][] boxes, int row, int column, int[] left) {
        if (row == 6) {
            return 1;
        }
        if (column == shape[row]) {
            return fillings(shape, boxes, row + 1, 0, left);
        }
        long ways = 0;
        for (int number = 1; number <= 6; number++) {
            boolean fits = left[number - 1] > 0
                    && (column == 0 || boxes[row][column - 1] <= number)
                    && (row == 0 || boxes[row - 1][column] < number);
            if (fits) {
                left[number - 1]--;
                boxes[row][column] = number;
                ways += fillings(shape, boxes, row, column + 1, left);
                left[number - 1]++;
            }
        }
        return ways;
    }

    // ---- sums as weights

    static Fraction[] zero() {
        Fraction[] weights = new Fraction[N];
        Arrays.fill(weights, Fraction.ZERO);
        return weights;
    }

    static Fraction[] monomial(int a) {
        Fraction[] weights = zero();
        weights[a] = Fraction.ONE;
        return weights;
    }

    private static int[][] listSplits() {
        int[][] all = new int[N][];
        for (int c = 0; c < N; c++) {
            List<Integer> pairs = new ArrayList<>();
            split(PARTITIONS[c], new int[6], 0, pairs);
            all[c] = pairs.stream().mapToInt(Integer::intValue).toArray();
        }
        return all;
    }

    private static void split(int[] whole, int[] one, int at, List<Integer> pairs) {
        if (at == 6) {
            int[] other = new int[6];
            for (int i = 0; i < 6; i++) {
                other[i] = whole[i] - one[i];
            }
            pairs.add(numberOf(one));
            pairs.add(numberOf(other));
            return;
        }
        for (int k = 0; k <= whole[at]; k++) {
            one[at] = k;
            split(whole, one, at + 1, pairs);
        }
        one[at] = 0;
    }

    /** The product, all above the degree 6 left out. */
    static Fraction[] product(Fraction[] one, Fraction[] other) {
        Fraction[] weights = zero();
        for (int c = 0; c < N; c++) {
            for (int i = 0; i < SPLITS[c].length; i += 2) {
                Fraction x = one[SPLITS[c][i]];
                Fraction y = other[SPLITS[c][i + 1]];
                if (!x.isZero() && !y.isZero()) {
                    weights[c] = weights[c].plus(x.by(y));
                }
            }
        }
        return weights;
    }

    static void addTo(Fraction[] to, Fraction n, Fraction[] weights) {
        for (int a = 0; a < N && !n.isZero(); a++) {
            to[a] = to[a].plus(n.by(weights[a]));
        }
    }

    static int degreeOf(Fraction[] weights) {
        int degree = NONE;
        for (int a = 0; a < N; a++) {
            if (!weights[a].isZero()) {
                degree = Math.max(degree, sum(PARTITIONS[a]));
            }
        }
        return degree;
    }

    private static Fraction[] single(int base, int k) {
        if (base == 1) {
            int[] ones = new int[6];
            Arrays.fill(ones, 0, k, 1);
            return monomial(numberOf(ones));
        }
        if (base == 3) {
            return monomial(numberOf(k));
        }
        Fraction[] weights = zero();
        for (int a = 0; a < N; a++) {
            weights[a] = sum(PARTITIONS[a]) == k ? Fraction.ONE : Fraction.ZERO;
        }
        return weights;
    }

    private static Fraction[] member(int base, int a) {
        Fraction[] weights = monomial(base == 0 ? a : 0);
        if (base == 4) {
            for (int b = 0; b < N; b++) {
                weights[b] = Fraction.of(KOSTKA[a][b]);
            }
        } else if (base > 0) {
            for (int part : PARTITIONS[a]) {
                weights = part > 0 ? product(weights, single(base, part)) : weights;
            }
        }
        return weights;
    }

    private static Fraction[][][] listMembers() {
        Fraction[][][] all = new Fraction[5][N][];
        for (int base = 0; base < 5; base++) {
            for (int a = 0; a < N; a++) {
                all[base][a] = member(base, a);
            }
        }
        return all;
    }

    private static Fraction[][][] invertAll() {
        Fraction[][][] all = new Fraction[5][][];
        for (int base = 0; base < 5; base++) {
            all[base] = invert(MEMBERS[base]);
        }
        return all;
    }

    private static Fraction[][] invert(Fraction[][] matrix) {
        Fraction[][] left = new Fraction[N][];
        Fraction[][] right = new Fraction[N][];
        for (int i = 0; i < N; i++) {
            left[i] = matrix[i].clone();
            right[i] = monomial(i);
        }
        for (int i = 0; i < N; i++) {
            int pivot = i;
            while (left[pivot][i].isZero()) {
                pivot++;
            }
            Fraction[] swapped = left[i];
            left[i] = left[pivot];
            left[pivot] = swapped;
            swapped = right[i];
            right[i] = right[pivot];
            right[pivot] = swapped;
            Fraction scale = Fraction.ONE.over(left[i][i]);
            for (int j = 0; j < N; j++) {
                left[i][j] = left[i][j].by(scale);
                right[i][j] = right[i][j].by(scale);
            }
            for (int k = 0; k < N; k++) {
                if (k != i && !left[k][i].isZero()) {
                    Fraction off = Fraction.of(-1).by(left[k][i]);
                    addTo(left[k], off, left[i]);
                    addTo(right[k], off, right[i]);
                }
            }
        }
        return right;
    }

    /** The numbers before the members of a base. */
    static Fraction[] numbers(int base, Fraction[] weights) {
        Fraction[] numbers = zero();
        for (int b = 0; b < N; b++) {
            addTo(numbers, weights[b], BACK[base][b]);
        }
        return numbers;
    }

    static Fraction scalarOf(Fraction[] one, Fraction[] other) {
        Fraction[] completes = numbers(2, one);
        Fraction sum = Fraction.ZERO;
        for (int a = 0; a < N; a++) {
            sum = sum.plus(completes[a].by(other[a]));
        }
        return sum;
    }

    /** All numbers before the members of a base in what a slot holds. */
    Fraction[] told(int slot, int base) {
        return numbers(base, held[slot]);
    }

    // ---- refusals

    private static boolean slots(int... all) {
        for (int one : all) {
            if (one < 0 || one > 7) {
                return false;
            }
        }
        return true;
    }

    private static boolean partitions(int... all) {
        for (int one : all) {
            if (one < 0 || one > 29) {
                return false;
            }
        }
        return true;
    }

    private static boolean base(int base) {
        return base >= 0 && base <= 4;
    }

    private int hold(int to, Fraction[] weights) {
        if (beyond(weights, 100000)) {
            return FULL;
        }
        held[to] = weights;
        return 1;
    }

    private static boolean beyond(Fraction[] weights, long bound) {
        boolean is = false;
        for (Fraction weight : weights) {
            is |= Math.abs(weight.whole()) > bound;
        }
        return is;
    }

    // ---- the calls

    int part(int a, int k) {
        return !partitions(a) ? UNKNOWN : k < 0 || k > 5 ? OUTSIDE : PARTITIONS[a][k];
    }

    int about(int a, int what) {
        if (!partitions(a)) {
            return UNKNOWN;
        }
        int degree = sum(PARTITIONS[a]);
        int parts = 0;
        for (int one : PARTITIONS[a]) {
            parts += one > 0 ? 1 : 0;
        }
        int[] ones = new int[6];
        Arrays.fill(ones, 0, degree, 1);
        switch (what) {
            case 0: return degree;
            case 1: return parts;
            case 2: return conjugate(a);
            case 3: return (int) z(a);
            case 4: return (int) KOSTKA[a][numberOf(ones)];
            default: return OUTSIDE;
        }
    }

    int kostka(int a, int b) {
        return partitions(a, b) ? (int) KOSTKA[a][b] : UNKNOWN;
    }

    int character(int a, int b) {
        return partitions(a, b) ? 1000 + (int) scalarOf(MEMBERS[4][a], MEMBERS[3][b]).whole() : UNKNOWN;
    }

    int above(int a, int b) {
        if (!partitions(a, b)) {
            return UNKNOWN;
        }
        boolean is = sum(PARTITIONS[a]) == sum(PARTITIONS[b]);
        for (int n = 1; n <= 6; n++) {
            is &= sum(Arrays.copyOf(PARTITIONS[a], n)) >= sum(Arrays.copyOf(PARTITIONS[b], n));
        }
        return is ? 1 : 0;
    }

    int put(int to, int base, int a, int n) {
        if (!slots(to) || !base(base) || !partitions(a)) {
            return UNKNOWN;
        }
        if (n < -1000 || n > 1000) {
            return OUTSIDE;
        }
        Fraction[] weights = zero();
        addTo(weights, Fraction.of(n), MEMBERS[base][a]);
        return hold(to, weights);
    }

    int add(int to, int from, int n) {
        if (!slots(to, from)) {
            return UNKNOWN;
        }
        if (n < -1000 || n > 1000) {
            return OUTSIDE;
        }
        Fraction[] weights = held[to].clone();
        addTo(weights, Fraction.of(n), held[from]);
        return hold(to, weights);
    }

    int degree(int slot) {
        return slots(slot) ? degreeOf(held[slot]) : UNKNOWN;
    }

    long coefficient(int slot, int base, int a, int what) {
        if (!slots(slot) || !base(base) || !partitions(a)) {
            return GONE + UNKNOWN;
        }
        if (what < 0 || what > 1) {
            return GONE + OUTSIDE;
        }
        Fraction number = numbers(base, held[slot])[a];
        return (what == 0 ? number.upper : number.lower).longValueExact();
    }

    int next(int slot, int base, int from) {
        if (!slots(slot) || !base(base)) {
            return UNKNOWN;
        }
        if (from < 0 || from > 30) {
            return OUTSIDE;
        }
        Fraction[] numbers = numbers(base, held[slot]);
        for (int a = from; a < N; a++) {
            if (!numbers[a].isZero()) {
                return a;
            }
        }
        return NONE;
    }

    long value(int slot, int x, int y, int z) {
        if (!slots(slot)) {
            return GONE + UNKNOWN;
        }
        if (Math.min(x, Math.min(y, z)) < -9 || Math.max(x, Math.max(y, z)) > 9) {
            return GONE + OUTSIDE;
        }
        long sum = 0;
        for (int i = 0; i <= 6; i++) {
            for (int j = 0; j <= 6; j++) {
                for (int k = 0; k <= 6; k++) {
                    if (i + j + k <= 6) {
                        double product = Math.pow(x, i) * Math.pow(y, j) * Math.pow(z, k);
                        sum += held[slot][numberOf(i, j, k)].whole() * Math.round(product);
                    }
                }
            }
        }
        return sum;
    }

    long scalar(int a, int b) {
        return slots(a, b) ? scalarOf(held[a], held[b]).whole() : GONE + UNKNOWN;
    }

    int times(int to, int a, int b) {
        if (!slots(to, a, b)) {
            return UNKNOWN;
        }
        int one = degreeOf(held[a]);
        int other = degreeOf(held[b]);
        if (one != NONE && other != NONE && one + other > 6) {
            return FULL;
        }
        return hold(to, product(held[a], held[b]));
    }

    int turn(int to, int a) {
        if (!slots(to, a)) {
            return UNKNOWN;
        }
        Fraction[] numbers = numbers(1, held[a]);
        Fraction[] weights = zero();
        for (int c = 0; c < N; c++) {
            addTo(weights, numbers[c], MEMBERS[2][c]);
        }
        return hold(to, weights);
    }

    int strip(int to, int a, int b) {
        if (!slots(to, a, b)) {
            return UNKNOWN;
        }
        Fraction[] weights = zero();
        for (int c = 0; c < N; c++) {
            Fraction n = scalarOf(product(held[a], MEMBERS[4][c]), held[b]);
            addTo(weights, n, MEMBERS[4][c]);
        }
        return hold(to, weights);
    }

    int meet(int to, int a, int b) {
        if (!slots(to, a, b)) {
            return UNKNOWN;
        }
        Fraction[] one = numbers(3, held[a]);
        Fraction[] other = numbers(3, held[b]);
        Fraction[] weights = zero();
        for (int c = 0; c < N; c++) {
            addTo(weights, one[c].by(other[c]).by(Fraction.of(z(c))), MEMBERS[3][c]);
        }
        return hold(to, weights);
    }

    int plug(int to, int a, int b) {
        if (!slots(to, a, b)) {
            return UNKNOWN;
        }
        if (beyond(held[a], 1000) || beyond(held[b], 9)) {
            return STATE;
        }
        int one = degreeOf(held[a]);
        int other = degreeOf(held[b]);
        if (one > 0 && other > 0 && one * other > 6) {
            return FULL;
        }
        Fraction[] numbers = numbers(3, held[a]);
        Fraction[] weights = zero();
        for (int c = 0; c < N; c++) {
            Fraction[] plugged = monomial(0);
            for (int part : PARTITIONS[c]) {
                plugged = part > 0 && !numbers[c].isZero()
                        ? product(plugged, stretched(held[b], part)) : plugged;
            }
            addTo(weights, numbers[c], plugged);
        }
        return hold(to, weights);
    }

    private static Fraction[] stretched(Fraction[] weights, int k) {
        Fraction[] result = zero();
        for (int a = 0; a < N; a++) {
            if (!weights[a].isZero()) {
                int[] exponents = PARTITIONS[a].clone();
                for (int i = 0; i < 6; i++) {
                    exponents[i] *= k;
                }
                // A degree above 6 would be refused before: an index of -1 fails loudly here.
                result[numberOf(exponents)] = weights[a];
            }
        }
        return result;
    }

    int image(int k) {
        if (k < 0 || k > 1) {
            return OUTSIDE;
        }
        kept[k] = held.clone();
        return 1;
    }

    int restore(int k) {
        if (k < 0 || k > 1) {
            return OUTSIDE;
        }
        if (kept[k] == null) {
            return STATE;
        }
        held = kept[k].clone();
        return 1;
    }

    int count(int what) {
        int many = 0;
        if (what == 0) {
            for (Fraction[] one : held) {
                many += degreeOf(one) != NONE ? 1 : 0;
            }
            return many;
        }
        if (what == 1) {
            return (kept[0] != null ? 1 : 0) + (kept[1] != null ? 2 : 0);
        }
        int first = -1;
        for (int a = N - 1; a >= 0; a--) {
            if (what % 10 == sum(PARTITIONS[a])) {
                many++;
                first = a;
            }
        }
        return what >= 10 && what <= 16 ? many : what >= 20 && what <= 26 ? first : OUTSIDE;
    }
}

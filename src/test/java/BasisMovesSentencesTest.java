import java.util.Arrays;
import java.util.HashSet;
import java.util.Set;

/**
 * The sentences of "What it is", "Terms" and the three sections, and those of promises, that had no
 * test of their own: each is written over again by other calls of the class, or counted out here.
 */
public final class BasisMovesSentencesTest {
    private static final int[] STARTS = {0, 1, 2, 4, 7, 12, 19, 30};
    private static final int[][] PLACES = {{2, -3, 5}, {9, 8, -9}, {1, 0, -1}, {-7, 0, 4}, {0, 0, 6}, {3, 3, -2}};
    private static final Checks CHECKS = new Checks();

    private BasisMovesSentencesTest() {
    }

    public static void main(String[] args) {
        variablesExchanged();
        unlikeProducts();
        membersOfOnePart();
        membersAreProducts();
        tableauxMembers();
        tableauxOfOnes();
        conjugatePartByPart();
        aboveByParts();
        charactersAreScalars();
        toldInEachBase();
        scalarGoesByParts();
        strippedByItsWords();
        metGoesByParts();
        pluggedWithPowers();
        pluggedIsAProduct();
        pluggedByTheSameNumbers();
        tellingChangesNothing();
        othersStay();
        objectsApart();
        CHECKS.end();
    }

    private static int degreeOf(int a) {
        int degree = 0;
        while (STARTS[degree + 1] <= a) {
            degree++;
        }
        return degree;
    }

    private static int[] partsOf(BasisMoves x, int a) {
        int[] parts = new int[6];
        for (int k = 0; k < 6; k++) {
            parts[k] = x.part(a, k);
        }
        return parts;
    }

    private static void put(BasisMoves x, int slot, int base, int a, int n) {
        CHECKS.due("put(" + slot + ", " + base + ", " + a + ", " + n + ")", x.put(slot, base, a, n), 1);
    }

    private static void variablesExchanged() {
        CHECKS.sentence("Sums that stay the same however variables are exchanged");
        int[][] orders = {{0, 1, 2}, {0, 2, 1}, {1, 0, 2}, {1, 2, 0}, {2, 0, 1}, {2, 1, 0}};
        for (int base = 0; base < 5; base++) {
            for (int a = 0; a < 30; a++) {
                BasisMoves x = new BasisMoves();
                put(x, 0, base, a, 3);
                for (int[] at : PLACES) {
                    long first = x.value(0, at[0], at[1], at[2]);
                    for (int[] by : orders) {
                        CHECKS.due("base " + base + ", " + a + ", exchanged",
                                x.value(0, at[by[0]], at[by[1]], at[by[2]]), first);
                    }
                }
            }
        }
    }

    /** All rows of six exponents that are the parts in any order, each once. */
    private static Set<String> orders(int[] parts) {
        Set<String> all = new HashSet<>();
        order(parts.clone(), 0, all);
        return all;
    }

    private static void order(int[] row, int at, Set<String> all) {
        if (at == row.length) {
            StringBuilder text = new StringBuilder();
            for (int one : row) {
                text.append(one);
            }
            all.add(text.toString());
            return;
        }
        for (int i = at; i < row.length; i++) {
            swap(row, at, i);
            order(row, at + 1, all);
            swap(row, at, i);
        }
    }

    private static void swap(int[] row, int i, int j) {
        int one = row[i];
        row[i] = row[j];
        row[j] = one;
    }

    private static long power(long number, int exponent) {
        long power = 1;
        for (int i = 0; i < exponent; i++) {
            power *= number;
        }
        return power;
    }

    private static void unlikeProducts() {
        CHECKS.sentence("m(a), a MONOMIAL: the sum of all unlike products of powers of variables whose exponents, "
                + "those of 0 left out, are the PARTS of the PARTITION a in any order");
        for (int a = 0; a < 30; a++) {
            BasisMoves x = new BasisMoves();
            put(x, 0, 0, a, 1);
            Set<String> rows = orders(partsOf(x, a));
            for (int[] at : PLACES) {
                int[] six = {at[0], at[1], at[2], 0, 0, 0};
                long sum = 0;
                for (String row : rows) {
                    long product = 1;
                    for (int i = 0; i < 6; i++) {
                        product *= power(six[i], row.charAt(i) - '0');
                    }
                    sum += product;
                }
                CHECKS.due("m(" + a + ") at " + Arrays.toString(at), x.value(0, at[0], at[1], at[2]), sum);
            }
        }
    }

    private static void membersOfOnePart() {
        CHECKS.sentence("e(k) is m of the PARTITION of k ones .. h(k) is the sum of all m of DEGREE k .. "
                + "p(k) is m of the PARTITION that is k alone");
        for (int k = 1; k <= 6; k++) {
            int alone = STARTS[k];
            int ones = STARTS[k + 1] - 1;
            StringBuilder all = new StringBuilder();
            for (int a = alone; a <= ones; a++) {
                all.append(a).append(":1 ");
            }
            BasisMoves x = new BasisMoves();
            put(x, 1, 1, alone, 1);
            put(x, 2, 2, alone, 1);
            put(x, 3, 3, alone, 1);
            CHECKS.same("e(" + k + ")", Checks.weights(x, 1), ones + ":1 ");
            CHECKS.same("h(" + k + ")", Checks.weights(x, 2), all.toString());
            CHECKS.same("p(" + k + ")", Checks.weights(x, 3), alone + ":1 ");
        }
    }

    private static void membersAreProducts() {
        CHECKS.sentence("e(a) is the product of e(k) for all PARTS k of a; h(a) their product likewise; p(a) their "
                + "product");
        for (int base = 1; base <= 3; base++) {
            for (int a = 0; a < 30; a++) {
                BasisMoves x = new BasisMoves();
                put(x, 0, base, a, 1);
                put(x, 1, 0, 0, 1);
                for (int k = 0; k < x.about(a, 1); k++) {
                    put(x, 2, base, STARTS[x.part(a, k)], 1);
                    CHECKS.due("times(1, 1, 2)", x.times(1, 1, 2), 1);
                }
                CHECKS.same("base " + base + ", " + a, Checks.weights(x, 0), Checks.weights(x, 1));
            }
        }
    }

    private static void tableauxMembers() {
        CHECKS.sentence("the s(a): the sum of K of a and b times m(b), over all b");
        for (int a = 0; a < 30; a++) {
            BasisMoves x = new BasisMoves();
            put(x, 0, 4, a, -4);
            for (int b = 0; b < 30; b++) {
                CHECKS.due("before m(" + b + ") in -4 s(" + a + ")", x.coefficient(0, 0, b, 0), -4 * x.kostka(a, b));
            }
        }
    }

    private static void tableauxOfOnes() {
        CHECKS.sentence("K of it and the PARTITION of ones of its DEGREE (4)");
        BasisMoves x = new BasisMoves();
        for (int a = 0; a < 30; a++) {
            int ones = STARTS[degreeOf(a) + 1] - 1;
            CHECKS.due("about(" + a + ", 4)", x.about(a, 4), x.kostka(a, ones));
        }
    }

    private static void conjugatePartByPart() {
        CHECKS.sentence("The CONJUGATE of a PARTITION: its k-th PART is how many PARTS of the other one are no less "
                + "than k");
        for (int a = 0; a < 30; a++) {
            BasisMoves x = new BasisMoves();
            int other = x.about(a, 2);
            for (int k = 1; k <= 6; k++) {
                int noLess = 0;
                for (int part : partsOf(x, a)) {
                    noLess += part >= k ? 1 : 0;
                }
                CHECKS.due("PART " + k + " of the CONJUGATE of " + a, x.part(other, k - 1), noLess);
            }
        }
    }

    private static void aboveByParts() {
        CHECKS.sentence("if for each n its first n PARTS together are no less than those of the other one");
        for (int a = 0; a < 30; a++) {
            BasisMoves x = new BasisMoves();
            int[] one = partsOf(x, a);
            for (int b = 0; b < 30; b++) {
                int[] other = partsOf(x, b);
                boolean is = degreeOf(a) == degreeOf(b);
                int ahead = 0;
                for (int n = 0; n < 6; n++) {
                    ahead += one[n] - other[n];
                    is = is && ahead >= 0;
                }
                CHECKS.due("above(" + a + ", " + b + ")", x.above(a, b), is ? 1 : 0);
            }
        }
    }

    private static void charactersAreScalars() {
        CHECKS.sentence("character: SCALAR of s(a) and p(b), 1000 added");
        for (int a = 0; a < 30; a++) {
            BasisMoves x = new BasisMoves();
            put(x, 0, 4, a, 1);
            for (int b = 0; b < 30; b++) {
                put(x, 1, 3, b, 1);
                CHECKS.due("character(" + a + ", " + b + ")", x.character(a, b), x.scalar(0, 1) + 1000);
            }
        }
    }

    /** A sum as many times as makes all its numbers whole, put together again from the numbers told. */
    private static void toldInEachBase() {
        CHECKS.sentence("Each SUM is, in one way, numbers times members of each BASE, added");
        for (int base = 0; base < 5; base++) {
            for (int a = 0; a < 30; a++) {
                BasisMoves x = new BasisMoves();
                int from = STARTS[degreeOf(a)];
                int to = STARTS[degreeOf(a) + 1];
                put(x, 0, 0, a, 1);
                int times = 1;
                for (int b = from; b < to; b++) {
                    // All lower numbers of one m(a) divide the greatest one.
                    times = Math.max(times, (int) x.coefficient(0, base, b, 1));
                }
                put(x, 0, 0, a, times);
                for (int b = from; b < to; b++) {
                    CHECKS.due("the lower number", x.coefficient(0, base, b, 1), 1);
                    CHECKS.plus(x, 1, base, b, (int) x.coefficient(0, base, b, 0));
                }
                CHECKS.same(times + " m(" + a + ") by base " + base, Checks.weights(x, 1), a + ":" + times + " ");
            }
        }
    }

    /** Three sums that have parts of all degrees up to one; slots 0, 1, 2. Slot 3: 2 times the first, -3 the second. */
    private static BasisMoves three(int degree, int shift) {
        BasisMoves x = new BasisMoves();
        for (int a = 0; a < STARTS[degree + 1]; a++) {
            add(x, 0, a, (a * 7 + shift) % 5 - 2);
            add(x, 1, a, (a * 3 + shift) % 7 - 3);
            add(x, 2, a, (a * 5 + shift) % 9 - 4);
        }
        CHECKS.due("add(3, 0, 2)", x.add(3, 0, 2), 1);
        CHECKS.due("add(3, 1, -3)", x.add(3, 1, -3), 1);
        return x;
    }

    private static void add(BasisMoves x, int slot, int a, int n) {
        put(x, 7, 0, a, n);
        CHECKS.due("add", x.add(slot, 7, 1), 1);
    }

    private static void scalarGoesByParts() {
        CHECKS.sentence("SCALAR .. goes by parts: what is added, and numbers before, on either side");
        for (int shift = 0; shift < 20; shift++) {
            BasisMoves x = three(6, shift);
            CHECKS.due("on the one side", x.scalar(3, 2), 2 * x.scalar(0, 2) - 3 * x.scalar(1, 2));
            CHECKS.due("on the other side", x.scalar(2, 3), 2 * x.scalar(2, 0) - 3 * x.scalar(2, 1));
        }
    }

    /** Slots 4 and 5: what the call makes of the first and of the second; slot 6: of 2 times and -3 times them. */
    private static void byParts(BasisMoves x, String what, Checks.Call first, Checks.Call second, Checks.Call both) {
        CHECKS.due(what + ", the first", first.on(x), 1);
        CHECKS.due(what + ", the second", second.on(x), 1);
        CHECKS.due(what + ", both", both.on(x), 1);
        put(x, 7, 0, 0, 0);
        CHECKS.due("add(7, 4, 2)", x.add(7, 4, 2), 1);
        CHECKS.due("add(7, 5, -3)", x.add(7, 5, -3), 1);
        CHECKS.same(what, Checks.weights(x, 6), Checks.weights(x, 7));
    }

    private static void strippedByItsWords() {
        CHECKS.sentence("b STRIPPED of a: the sum over all PARTITIONS c of s(c), times SCALAR of a times s(c), and b");
        for (int a = 0; a < 30; a++) {
            for (int b = 0; b < 30; b++) {
                BasisMoves x = new BasisMoves();
                put(x, 0, 4, a, 2);
                put(x, 1, 4, b, 5);
                for (int c = 0; c < STARTS[7 - degreeOf(a)]; c++) {
                    put(x, 2, 4, c, 1);
                    CHECKS.due("times(3, 0, 2)", x.times(3, 0, 2), 1);
                    CHECKS.due("add(4, 2, ..)", x.add(4, 2, (int) x.scalar(3, 1)), 1);
                }
                CHECKS.due("strip(5, 0, 1)", x.strip(5, 0, 1), 1);
                CHECKS.same("5 s(" + b + ") stripped of 2 s(" + a + ")", Checks.weights(x, 5), Checks.weights(x, 4));
            }
        }
    }

    private static void metGoesByParts() {
        CHECKS.sentence("a MET with b: it goes by parts, as SCALAR does");
        for (int shift = 0; shift < 10; shift++) {
            byParts(three(4, shift), "on the one side", x -> x.meet(4, 0, 2), x -> x.meet(5, 1, 2),
                    x -> x.meet(6, 3, 2));
            byParts(three(4, shift), "on the other side", x -> x.meet(4, 2, 0), x -> x.meet(5, 2, 1),
                    x -> x.meet(6, 2, 3));
        }
    }

    private static void pluggedWithPowers() {
        CHECKS.sentence("b[k] is b with the k-th power of each variable in its place");
        for (int k = 1; k <= 6; k++) {
            for (int d = 0; d < STARTS[6 / k + 1]; d++) {
                BasisMoves x = new BasisMoves();
                put(x, 0, 3, STARTS[k], 1);
                put(x, 1, 0, d, -7);
                CHECKS.due("plug(2, 0, 1)", x.plug(2, 0, 1), 1);
                int found = x.next(2, 0, 0);
                CHECKS.due("p(" + k + ") with -7 m(" + d + ")", x.coefficient(2, 0, found, 0), -7);
                CHECKS.due("nothing else", x.next(2, 0, found + 1), -6);
                for (int i = 0; i < 6; i++) {
                    CHECKS.due("PART " + i + " of what p(" + k + ") makes of m(" + d + ")", x.part(found, i),
                            k * x.part(d, i));
                }
                // Places whose powers are places too.
                for (int[] at : new int[][] {{1, -1, 1}, {-1, 0, 1}, {-1, -1, -1}, {0, 0, -1}}) {
                    CHECKS.due("its value", x.value(2, at[0], at[1], at[2]),
                            x.value(1, (int) power(at[0], k), (int) power(at[1], k), (int) power(at[2], k)));
                }
            }
        }
    }

    private static void pluggedIsAProduct() {
        CHECKS.sentence("p(c) plugged with b is the product of b[k] for all PARTS k of c");
        for (int c = 0; c < 30; c++) {
            for (int shift = 0; shift < 6; shift++) {
                int degree = c == 0 ? 6 : 6 / degreeOf(c);
                BasisMoves x = three(degree, shift);
                put(x, 4, 3, c, 1);
                put(x, 5, 0, 0, 1);
                for (int k = 0; k < x.about(c, 1); k++) {
                    put(x, 6, 3, STARTS[x.part(c, k)], 1);
                    CHECKS.due("plug(6, 6, 0)", x.plug(6, 6, 0), 1);
                    CHECKS.due("times(5, 5, 6)", x.times(5, 5, 6), 1);
                }
                CHECKS.due("plug(4, 4, 0)", x.plug(4, 4, 0), 1);
                CHECKS.same("p(" + c + ") plugged", Checks.weights(x, 4), Checks.weights(x, 5));
            }
        }
    }

    private static void pluggedByTheSameNumbers() {
        CHECKS.sentence("a, told by numbers times p(c), is plugged with b by the same numbers times these");
        for (int shift = 0; shift < 10; shift++) {
            for (int degree = 1; degree <= 2; degree++) {
                BasisMoves x = three(degree, shift);
                byParts(x, "of degrees " + degree, y -> y.plug(4, 0, 2), y -> y.plug(5, 1, 2), y -> y.plug(6, 3, 2));
            }
        }
    }

    private static void tellingChangesNothing() {
        CHECKS.sentence("Nothing is promised beyond the answers and state changes described above (telling)");
        BasisMoves x = three(2, 3);
        CHECKS.due("image(1)", x.image(1), 1);
        put(x, 5, 4, 24, 1);
        BasisMoves same = three(2, 3);
        CHECKS.due("image(1)", same.image(1), 1);
        put(same, 5, 4, 24, 1);
        for (int a = 0; a < 30; a += 3) {
            x.part(a, 1);
            x.about(a, a % 5);
            x.kostka(a, 29 - a);
            x.character(a, 29 - a);
            x.above(a, 29 - a);
            for (int base = 0; base < 5; base++) {
                x.coefficient(a % 8, base, a, a % 2);
                x.next(a % 8, base, a);
            }
            x.degree(a % 8);
            x.value(a % 8, 3, -2, 1);
            x.scalar(a % 8, 5);
            x.count(0);
            x.count(1);
        }
        CHECKS.same("the state", Checks.state(x), Checks.state(same));
    }

    private static void othersStay() {
        CHECKS.sentence("A SLOT holds .. (and all others what they held); image changes no SLOT, restore no IMAGE");
        for (int to = 0; to < 8; to++) {
            BasisMoves x = new BasisMoves();
            StringBuilder due = new StringBuilder();
            for (int slot = 0; slot < 8; slot++) {
                put(x, slot, 0, 3 * slot, slot + 1);
                due.append(slot == to ? "[29:8 ] " : "[" + 3 * slot + ":" + (slot + 1) + " ] ");
            }
            put(x, to, 0, 29, 8);
            CHECKS.same("after put(" + to + ", ..)", Checks.slots(x), due.toString());
            CHECKS.due("image(0)", x.image(0), 1);
            CHECKS.same("after image(0)", Checks.slots(x), due.toString());
            CHECKS.due("restore(0)", x.restore(0), 1);
            CHECKS.same("after restore(0)", Checks.slots(x), due.toString());
            CHECKS.due("count(1)", x.count(1), 1);
        }
    }

    private static void objectsApart() {
        CHECKS.sentence("All SLOTS hold 0; no IMAGE is kept (whatever other objects hold)");
        BasisMoves first = three(3, 1);
        CHECKS.due("image(0)", first.image(0), 1);
        String before = Checks.slots(first);
        BasisMoves second = new BasisMoves();
        CHECKS.same("the slots of a new one", Checks.slots(second), "[] [] [] [] [] [] [] [] ");
        CHECKS.due("count(1) of a new one", second.count(1), 0);
        CHECKS.due("restore(0) of a new one", second.restore(0), -3);
        put(second, 0, 2, 29, 9);
        CHECKS.due("times(1, 0, 2)", second.times(1, 0, 2), 1);
        CHECKS.due("image(0)", second.image(0), 1);
        CHECKS.same("the slots of the first one", Checks.slots(first), before);
        CHECKS.due("restore(0)", first.restore(0), 1);
        CHECKS.same("the slots of the first one", Checks.slots(first), before);
    }
}

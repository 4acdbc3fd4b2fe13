import java.util.function.ToIntFunction;

/**
 * Whole tables against the reference: what is told of every partition and every pair of them, every
 * member of every base told in every base, and all work of every pair of monomials and of every
 * pair of members of tableaux. Since all work but plug goes by parts, these tables tell all of it
 * (what numbers on the way come to be is for BasisMovesExtremesTest).
 */
public final class BasisMovesTablesTest {
    private static final Checks CHECKS = new Checks();
    private static final int[] WORKED = {0, 4};

    private BasisMovesTablesTest() {
    }

    public static void main(String[] args) {
        partitions();
        pairsOfPartitions();
        membersTold();
        scalars();
        turned();
        times();
        strips();
        meets();
        plugs();
        CHECKS.end();
    }

    private static String name(int base, int a) {
        return "mehps".charAt(base) + "(" + a + ")";
    }

    private static void partitions() {
        CHECKS.sentence("part, about: all of it");
        Reference due = new Reference();
        BasisMoves x = new BasisMoves();
        for (int a = 0; a < 30; a++) {
            for (int k = 0; k < 6; k++) {
                CHECKS.due("part(" + a + ", " + k + ")", x.part(a, k), due.part(a, k));
            }
            for (int what = 0; what < 5; what++) {
                CHECKS.due("about(" + a + ", " + what + ")", x.about(a, what), due.about(a, what));
            }
        }
    }

    private static void pairsOfPartitions() {
        CHECKS.sentence("kostka, character, above: all pairs");
        Reference due = new Reference();
        for (int a = 0; a < 30; a++) {
            BasisMoves x = new BasisMoves();
            for (int b = 0; b < 30; b++) {
                String pair = "(" + a + ", " + b + ")";
                CHECKS.due("kostka" + pair, x.kostka(a, b), due.kostka(a, b));
                CHECKS.due("character" + pair, x.character(a, b), due.character(a, b));
                CHECKS.due("above" + pair, x.above(a, b), due.above(a, b));
            }
        }
    }

    private static void membersTold() {
        CHECKS.sentence("put, coefficient, next, degree: every member of every BASE, told in every BASE");
        for (int base = 0; base < 5; base++) {
            for (int a = 0; a < 30; a++) {
                BasisMoves x = new BasisMoves();
                Reference due = new Reference();
                CHECKS.due("put of " + name(base, a), x.put(1, base, a, -3), due.put(1, base, a, -3));
                CHECKS.due("degree of " + name(base, a), x.degree(1), due.degree(1));
                for (int by = 0; by < 5; by++) {
                    told(x, due.told(1, by), by, "-3 " + name(base, a) + " by base " + by);
                }
            }
        }
    }

    private static void told(BasisMoves x, Fraction[] numbers, int base, String what) {
        int next = -6;
        CHECKS.due(what + ", next from 30", x.next(1, base, 30), -6);
        for (int b = 29; b >= 0; b--) {
            next = numbers[b].isZero() ? next : b;
            CHECKS.due(what + ", next from " + b, x.next(1, base, b), next);
            CHECKS.due(what + ", upper of " + b, x.coefficient(1, base, b, 0), numbers[b].upper.longValueExact());
            CHECKS.due(what + ", lower of " + b, x.coefficient(1, base, b, 1), numbers[b].lower.longValueExact());
        }
    }

    private static void scalars() {
        CHECKS.sentence("scalar: every member of every BASE with every other");
        for (int base = 0; base < 5; base++) {
            for (int a = 0; a < 30; a++) {
                Fraction[] completes = Reference.numbers(2, Reference.MEMBERS[base][a]);
                for (int other = 0; other < 5; other++) {
                    BasisMoves x = new BasisMoves();
                    CHECKS.due("put", x.put(0, base, a, 2), 1);
                    for (int b = 0; b < 30; b++) {
                        CHECKS.due("put", x.put(1, other, b, -5), 1);
                        CHECKS.due("scalar of 2 " + name(base, a) + " and -5 " + name(other, b), x.scalar(0, 1),
                                -10 * dot(completes, Reference.MEMBERS[other][b]));
                    }
                }
            }
        }
    }

    private static long dot(Fraction[] one, Fraction[] other) {
        Fraction sum = Fraction.ZERO;
        for (int a = 0; a < 30; a++) {
            sum = one[a].isZero() || other[a].isZero() ? sum : sum.plus(one[a].by(other[a]));
        }
        return sum.whole();
    }

    private static void turned() {
        CHECKS.sentence("turn: every member of every BASE");
        for (int base = 0; base < 5; base++) {
            for (int a = 0; a < 30; a++) {
                BasisMoves x = new BasisMoves();
                Reference due = new Reference();
                CHECKS.due("put", x.put(0, base, a, 1), due.put(0, base, a, 1));
                CHECKS.due("turn of " + name(base, a), x.turn(1, 0), due.turn(1, 0));
                holds(x, due, "turned " + name(base, a));
            }
        }
    }

    /** Slot 1 holds, weight by weight, what it is to hold. */
    private static void holds(BasisMoves x, Reference due, String what) {
        StringBuilder weights = new StringBuilder();
        Fraction[] numbers = due.told(1, 0);
        for (int a = 0; a < 30; a++) {
            if (!numbers[a].isZero()) {
                weights.append(a).append(':').append(numbers[a].whole()).append(' ');
            }
        }
        CHECKS.same(what, Checks.weights(x, 1), weights.toString());
    }

    /** The same call on the class and on the reference: work of slots 2 and 3 into slot 1. */
    private static void allPairs(String what, ToIntFunction<BasisMoves> mine, ToIntFunction<Reference> reference) {
        for (int base : WORKED) {
            for (int a = 0; a < 30; a++) {
                for (int b = 0; b < 30; b++) {
                    pair(what, mine, reference, new int[] {base, a, base, b});
                }
            }
        }
    }

    private static void pair(String what, ToIntFunction<BasisMoves> mine, ToIntFunction<Reference> reference,
            int[] of) {
        BasisMoves x = new BasisMoves();
        Reference due = new Reference();
        CHECKS.due("put", x.put(1, 0, 5, 7), due.put(1, 0, 5, 7));
        CHECKS.due("put", x.put(2, of[0], of[1], 1), due.put(2, of[0], of[1], 1));
        CHECKS.due("put", x.put(3, of[2], of[3], -1), due.put(3, of[2], of[3], -1));
        String call = what + " of " + name(of[0], of[1]) + " and -" + name(of[2], of[3]);
        CHECKS.due(call, mine.applyAsInt(x), reference.applyAsInt(due));
        holds(x, due, call);
    }

    private static void times() {
        CHECKS.sentence("times: every pair of monomials, and of members of tableaux");
        allPairs("times", x -> x.times(1, 2, 3), due -> due.times(1, 2, 3));
    }

    private static void strips() {
        CHECKS.sentence("strip: every pair of monomials, and of members of tableaux");
        allPairs("strip", x -> x.strip(1, 2, 3), due -> due.strip(1, 2, 3));
    }

    private static void meets() {
        CHECKS.sentence("meet: every pair of monomials, and of members of tableaux");
        allPairs("meet", x -> x.meet(1, 2, 3), due -> due.meet(1, 2, 3));
    }

    private static void plugs() {
        CHECKS.sentence("plug: every pair of monomials, of members of tableaux, of power sums with monomials");
        allPairs("plug", x -> x.plug(1, 2, 3), due -> due.plug(1, 2, 3));
        for (int a = 0; a < 30; a++) {
            for (int b = 0; b < 30; b++) {
                pair("plug", x -> x.plug(1, 2, 3), due -> due.plug(1, 2, 3), new int[] {3, a, 0, b});
            }
        }
    }
}

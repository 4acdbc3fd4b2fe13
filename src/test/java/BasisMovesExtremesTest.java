import java.util.Random;

/**
 * The greatest weights there can be, with signs of all kinds: nothing on the way may wrap around,
 * and what is too great must be refused. Answers are held against the reference's.
 */
public final class BasisMovesExtremesTest {
    private static int wrong = 0;

    private final BasisMoves mine = new BasisMoves();
    private final Reference due = new Reference();
    private final String name;

    private BasisMovesExtremesTest(String name) {
        this.name = name;
    }

    public static void main(String[] args) {
        Random random = new Random(7);
        for (int kind = 0; kind < 36; kind++) {
            int[] one = signs(kind, random);
            int[] other = signs(kind % 6 == 5 ? kind : kind / 6, random);
            new BasisMovesExtremesTest("told " + kind).told(one, other);
            new BasisMovesExtremesTest("worked " + kind).worked(one, other);
        }
        for (int kind = 0; kind < 72; kind++) {
            int most = new int[] {0, 1, 2, 3, 6}[kind % 5];
            int other = most == 0 ? 6 : 6 / most;
            int[] into = cut(signs(kind, random), kind % 2 == 0 ? other : 6);
            int[] with = cut(signs(kind / 6, random), most);
            new BasisMovesExtremesTest("plug " + kind).plugged(into, with);
        }
        for (int degree = 0; degree <= 6; degree++) {
            for (int base = 0; base < 5; base++) {
                new BasisMovesExtremesTest("edge " + degree + " " + base).edges(degree, base);
            }
        }
        System.out.println(wrong == 0 ? "all extremes are as due" : wrong + " extremes are wrong");
        if (wrong != 0) {
            System.exit(1);
        }
    }

    /** Signs that make the numbers before some member of a base as great as can be, and others. */
    private static int[] signs(int kind, Random random) {
        int[] signs = new int[30];
        for (int b = 0; b < 30; b++) {
            switch (kind % 6) {
                case 0: signs[b] = 1; break;
                case 1: signs[b] = b % 2 == 0 ? 1 : -1; break;
                case 2: signs[b] = sign(Reference.numbers(3, Reference.monomial(b))[19 + kind / 6 % 11]); break;
                case 3: signs[b] = sign(Reference.numbers(2, Reference.monomial(b))[19 + kind / 6 % 11]); break;
                case 4: signs[b] = sign(Reference.numbers(4, Reference.monomial(b))[19 + kind / 6 % 11]); break;
                default: signs[b] = random.nextInt(3) - 1; break;
            }
        }
        // For lower degrees the member of the sixth degree says nothing: the power of one does.
        for (int b = 0; b < 19 && kind % 6 >= 2 && kind % 6 < 5; b++) {
            int alone = new int[] {0, 1, 2, 4, 7, 12}[Reference.sum(Reference.PARTITIONS[b])];
            signs[b] = sign(Reference.numbers(3, Reference.monomial(b))[alone]);
        }
        return signs;
    }

    private static int sign(Fraction number) {
        return number.isZero() ? 1 : number.upper.signum();
    }

    private static int[] cut(int[] signs, int degree) {
        int[] result = signs.clone();
        for (int b = 0; b < 30; b++) {
            result[b] = Reference.sum(Reference.PARTITIONS[b]) > degree ? 0 : signs[b];
        }
        return result;
    }

    private void check(String call, long got, long want) {
        if (got != want) {
            wrong++;
            System.out.println(name + ": " + call + " answered " + got + ", due is " + want);
        }
    }

    private void fill(int slot, int[] signs, int unit, int times) {
        for (int a = 0; a < 30; a++) {
            if (signs[a] != 0) {
                int n = signs[a] * unit;
                check("put", mine.put(7, 0, a, n), due.put(7, 0, a, n));
                check("add", mine.add(slot, 7, times), due.add(slot, 7, times));
            }
        }
    }

    private void told(int[] one, int[] other) {
        fill(0, one, 1000, 100);
        fill(1, other, 1000, 100);
        check("scalar(0, 1)", mine.scalar(0, 1), due.scalar(0, 1));
        check("scalar(0, 0)", mine.scalar(0, 0), due.scalar(0, 0));
        check("value(0, 9, 9, 9)", mine.value(0, 9, 9, 9), due.value(0, 9, 9, 9));
        check("value(0, -9, 9, -9)", mine.value(0, -9, 9, -9), due.value(0, -9, 9, -9));
        check("value(1, -9, -9, 8)", mine.value(1, -9, -9, 8), due.value(1, -9, -9, 8));
        for (int base = 0; base < 5; base++) {
            tell(0, base);
            tell(1, base);
        }
    }

    private void worked(int[] one, int[] other) {
        fill(0, one, 1000, 100);
        fill(1, other, 1000, 100);
        check("turn(2, 0)", mine.turn(2, 0), due.turn(2, 0));
        check("meet(3, 0, 1)", mine.meet(3, 0, 1), due.meet(3, 0, 1));
        check("strip(4, 0, 1)", mine.strip(4, 0, 1), due.strip(4, 0, 1));
        check("times(5, 0, 1)", mine.times(5, 0, 1), due.times(5, 0, 1));
        check("plug(6, 0, 1)", mine.plug(6, 0, 1), due.plug(6, 0, 1));
        check("put(6, 0, 0, 1)", mine.put(6, 0, 0, 1), due.put(6, 0, 0, 1));
        check("times(5, 0, 6)", mine.times(5, 0, 6), due.times(5, 0, 6));
        check("strip(4, 6, 1)", mine.strip(4, 6, 1), due.strip(4, 6, 1));
        check("meet(7, 6, 1)", mine.meet(7, 6, 1), due.meet(7, 6, 1));
        for (int slot = 0; slot < 8; slot++) {
            tell(slot, 0);
        }
    }

    private void plugged(int[] into, int[] with) {
        fill(0, into, 1000, 1);
        fill(1, with, 9, 1);
        check("plug(2, 0, 1)", mine.plug(2, 0, 1), due.plug(2, 0, 1));
        check("add(1, 1, -2)", mine.add(1, 1, -2), due.add(1, 1, -2));
        check("plug(3, 0, 1)", mine.plug(3, 0, 1), due.plug(3, 0, 1));
        int[] small = into.clone();
        fill(4, small, 1, 1);
        check("plug(5, 4, 1)", mine.plug(5, 4, 1), due.plug(5, 4, 1));
        for (int slot = 2; slot < 6; slot++) {
            tell(slot, 0);
        }
    }

    private void tell(int slot, int base) {
        Fraction[] numbers = due.told(slot, base);
        for (int a = 0; a < 30; a++) {
            String call = "coefficient(" + slot + ", " + base + ", " + a + ", ";
            check(call + "0)", mine.coefficient(slot, base, a, 0), numbers[a].upper.longValueExact());
            if (base == 3) {
                check(call + "1)", mine.coefficient(slot, base, a, 1), numbers[a].lower.longValueExact());
            }
        }
    }

    /** For each kind of work the greatest factor that is not refused, and the next one. */
    private void edges(int degree, int base) {
        int[] starts = {0, 1, 2, 4, 7, 12, 19, 30};
        for (int a = starts[degree]; a < starts[degree + 1]; a++) {
            long most = 1;
            for (Fraction weight : Reference.MEMBERS[base][a]) {
                most = Math.max(most, Math.abs(weight.whole()));
            }
            int n = (int) Math.min(1000, 100000 / most);
            for (int k = n; k <= n + 1; k++) {
                check("put", mine.put(0, base, a, k), due.put(0, base, a, k));
                check("put", mine.put(0, base, a, -k), due.put(0, base, a, -k));
            }
            check("turn", mine.turn(1, 0), due.turn(1, 0));
            check("meet", mine.meet(2, 0, 1), due.meet(2, 0, 1));
            check("strip", mine.strip(3, 0, 0), due.strip(3, 0, 0));
            check("put", mine.put(4, base, a, 1), due.put(4, base, a, 1));
            check("strip", mine.strip(5, 4, 0), due.strip(5, 4, 0));
            check("times", mine.times(6, 4, 0), due.times(6, 4, 0));
            check("plug", mine.plug(6, 4, 4), due.plug(6, 4, 4));
        }
        for (int slot = 0; slot < 7; slot++) {
            tell(slot, 0);
        }
    }
}

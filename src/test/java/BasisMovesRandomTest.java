import java.util.Random;

/**
 * Runs of 512 calls on the class and on the reference, side by side; each ends with all weights
 * being told. The seeds are fixed, so each time the runs are the same.
 */
public final class BasisMovesRandomTest {
    private static final int RUNS = 120;
    private static final int CALLS = 512 - 240;
    private static final int[] WILD = {-1, -2, 5, 6, 7, 8, 9, 10, 17, 20, 27, 29, 30, 31, -9, -10, -1000, -1001,
        1000, 1001, 100000, Integer.MAX_VALUE, Integer.MIN_VALUE, 1 << 28, 1 << 30, -3};
    private static int wrong = 0;

    private final Random random;
    private final BasisMoves mine = new BasisMoves();
    private final Reference due = new Reference();
    private final int run;
    private final int greatest;
    private final StringBuilder story = new StringBuilder();

    private BasisMovesRandomTest(int run) {
        this.run = run;
        random = new Random(run);
        greatest = new int[] {1, 3, 9, 40, 1000}[run % 5];
    }

    public static void main(String[] args) {
        int runs = args.length > 0 ? Integer.parseInt(args[0]) : RUNS;
        int[] answers = new int[20 * 8];
        for (int run = 0; run < runs && wrong == 0; run++) {
            new BasisMovesRandomTest(run).go(answers);
        }
        for (int kind = 0; args.length > 0 && kind < 20; kind++) {
            System.out.print("kind " + kind + ":");
            for (int i = 0; i < 8; i++) {
                System.out.print(" " + answers[kind * 8 + i]);
            }
            System.out.println();
        }
        System.out.println(wrong == 0 ? "all answers are as the reference's" : "answers differ");
        if (wrong != 0) {
            System.exit(1);
        }
    }

    private void go(int[] answers) {
        for (int i = 0; i < CALLS && wrong == 0; i++) {
            int kind = i < 8 ? 5 : pickKind();
            long answer = call(kind);
            long low = answer < -3000000000000000000L ? answer - BasisMoves.GONE : answer;
            answers[kind * 8 + (low < 0 && low >= -6 ? (int) -low : 0)]++;
        }
        for (int slot = 0; slot < 8; slot++) {
            for (int a = 0; a < 30; a++) {
                check("coefficient(" + slot + ", 0, " + a + ", 0)", mine.coefficient(slot, 0, a, 0),
                        due.coefficient(slot, 0, a, 0));
            }
        }
    }

    private int pickKind() {
        int kind = random.nextInt(40);
        return kind < 20 ? kind : kind < 25 ? 5 : kind < 29 ? 6 : kind < 36 ? 12 + (kind - 29) % 5 : 8 + kind % 4;
    }

    private void check(String call, long got, long want) {
        story.append(call).append(" = ").append(got).append('\n');
        if (got != want) {
            wrong++;
            System.out.println("run " + run + ":\n" + story + "due is " + want);
        }
    }

    private int pick(int below) {
        return random.nextInt(60) == 0 ? WILD[random.nextInt(WILD.length)] : random.nextInt(below);
    }

    private int slot() {
        return pick(8);
    }

    private int partition() {
        // Low degrees more often: products and pluggings stay within the bound.
        int all = new int[] {2, 4, 7, 12, 30, 30}[random.nextInt(6)];
        return pick(all);
    }

    private int factor() {
        int most = random.nextInt(4) == 0 ? 2 : greatest;
        return random.nextInt(40) == 0 ? WILD[random.nextInt(WILD.length)]
                : random.nextInt(2 * most + 1) - most;
    }

    private int place() {
        return random.nextInt(60) == 0 ? WILD[random.nextInt(WILD.length)] : random.nextInt(19) - 9;
    }

    private long call(int kind) {
        int a = kind < 5 ? pick(30) : slot();
        int b = kind == 0 ? pick(6) : kind == 1 ? pick(5) : kind < 5 ? pick(30) : slot();
        int c = slot();
        int base = pick(5);
        int partition = partition();
        int n = factor();
        int what = pick(2);
        String three = "(" + a + ", " + b + ", " + c + ")";
        String two = "(" + a + ", " + b + ")";
        long got;
        switch (kind) {
            case 0: check("part" + two, got = mine.part(a, b), due.part(a, b)); break;
            case 1: check("about" + two, got = mine.about(a, b), due.about(a, b)); break;
            case 2: check("kostka" + two, got = mine.kostka(a, b), due.kostka(a, b)); break;
            case 3: check("character" + two, got = mine.character(a, b), due.character(a, b)); break;
            case 4: check("above" + two, got = mine.above(a, b), due.above(a, b)); break;
            case 5: check("put(" + a + ", " + base + ", " + partition + ", " + n + ")",
                    got = mine.put(a, base, partition, n), due.put(a, base, partition, n)); break;
            case 6: check("add(" + a + ", " + b + ", " + n + ")", got = mine.add(a, b, n),
                    due.add(a, b, n)); break;
            case 7: check("degree(" + a + ")", got = mine.degree(a), due.degree(a)); break;
            case 8: partition = pick(30);
                check("coefficient(" + a + ", " + base + ", " + partition + ", " + what + ")",
                    got = mine.coefficient(a, base, partition, what),
                    due.coefficient(a, base, partition, what)); break;
            case 9: partition = pick(31);
                check("next(" + a + ", " + base + ", " + partition + ")",
                    got = mine.next(a, base, partition), due.next(a, base, partition)); break;
            case 10: got = values(a); break;
            case 11: check("scalar" + two, got = mine.scalar(a, b), due.scalar(a, b)); break;
            case 12: check("times" + three, got = mine.times(a, b, c), due.times(a, b, c)); break;
            case 13: check("turn" + two, got = mine.turn(a, b), due.turn(a, b)); break;
            case 14: check("strip" + three, got = mine.strip(a, b, c), due.strip(a, b, c)); break;
            case 15: check("meet" + three, got = mine.meet(a, b, c), due.meet(a, b, c)); break;
            case 16: check("plug" + three, got = mine.plug(a, b, c), due.plug(a, b, c)); break;
            case 17: check("image(" + what + ")", got = mine.image(what), due.image(what)); break;
            case 18: check("restore(" + what + ")", got = mine.restore(what), due.restore(what)); break;
            default: what = pick(28);
                check("count(" + what + ")", got = mine.count(what), due.count(what)); break;
        }
        return got;
    }

    private long values(int slot) {
        int x = place();
        int y = place();
        int z = place();
        long got = mine.value(slot, x, y, z);
        check("value(" + slot + ", " + x + ", " + y + ", " + z + ")", got, due.value(slot, x, y, z));
        return got;
    }
}

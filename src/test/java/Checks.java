/** What the tests of boundary cases share: sentences of the document, answers, and a state as a text. */
final class Checks {
    static final long GONE = -4000000000000000000L;

    /** A call on an object, to be made later. */
    interface Call {
        long on(BasisMoves x);
    }

    private int wrong = 0;
    private int sentences = 0;
    private String sentence = "";

    /** The words of the document that the next answers are due by. */
    void sentence(String words) {
        sentence = words;
        sentences++;
    }

    void due(String call, long got, long want) {
        if (got != want) {
            fault(call + " answered " + got + ", due is " + want);
        }
    }

    void same(String what, String got, String want) {
        if (!got.equals(want)) {
            fault(what + " is " + got + ", due is " + want);
        }
    }

    private void fault(String text) {
        wrong++;
        System.out.println("\"" + sentence + "\": " + text);
    }

    /** Tells how it went, and ends the program with 1 if an answer was wrong. */
    void end() {
        System.out.println(wrong == 0 ? sentences + " sentences hold" : wrong + " answers are not as due");
        if (wrong != 0) {
            System.exit(1);
        }
    }

    /** The weights that are not 0, by rising partitions, in few calls: "5:1 6:2 ". */
    static String weights(BasisMoves x, int slot) {
        return numbers(x, slot, 0);
    }

    /** Likewise the numbers before the members of a base, with their lower ones: "4:-1/3 6:1/3 ". */
    static String numbers(BasisMoves x, int slot, int base) {
        StringBuilder text = new StringBuilder();
        int a = x.next(slot, base, 0);
        for (int i = 0; i < 30 && a >= 0; i++) {
            text.append(a).append(':').append(x.coefficient(slot, base, a, 0));
            text.append(base == 3 ? "/" + x.coefficient(slot, base, a, 1) : "").append(' ');
            a = x.next(slot, base, a + 1);
        }
        return text.toString();
    }

    static String slots(BasisMoves x) {
        StringBuilder text = new StringBuilder();
        for (int slot = 0; slot < 8; slot++) {
            text.append('[').append(weights(x, slot)).append("] ");
        }
        return text.toString();
    }

    /** All that an object holds. The images are told by restoring them, so it is told last. */
    static String state(BasisMoves x) {
        StringBuilder text = new StringBuilder(slots(x));
        int images = x.count(1);
        text.append("filled ").append(x.count(0)).append(" images ").append(images);
        for (int k = 0; k < 2; k++) {
            text.append(" image ").append(k).append(": ").append(x.restore(k)).append(' ').append(slots(x));
        }
        return text.toString();
    }

    /** Adds n times a member of a base to a slot; slot 7 is used for it and left empty. */
    void plus(BasisMoves x, int slot, int base, int a, int n) {
        due("put", x.put(7, base, a, n / 100), 1);
        due("add", x.add(slot, 7, 100), 1);
        due("put", x.put(7, base, a, n % 100), 1);
        due("add", x.add(slot, 7, 1), 1);
        due("put", x.put(7, 0, 0, 0), 1);
    }
}

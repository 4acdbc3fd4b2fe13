/**
 * The SUM 0, the PARTITION 0, and what the document says of members, orders and numbers of
 * partitions where there is nothing, or all there can be.
 */
public final class BasisMovesEmptyTest {
    private static final int NONE = -6;
    private static final Checks CHECKS = new Checks();

    private BasisMovesEmptyTest() {
    }

    public static void main(String[] args) {
        newObject();
        partitionNone();
        partitionsOfOrder();
        conjugates();
        zNumbers();
        aboveItself();
        tableauxOfUnlikeDegrees();
        charactersOfUnlikeDegrees();
        membersOfNone();
        sumNone();
        sumNoneWorked();
        sumNoneFromOthers();
        numbersInLowestTerms();
        wholeInAllBasesButPowers();
        scalarByParts();
        turnedTwice();
        strippedAboveSix();
        metWithAnother();
        pluggedNoParts();
        imagesOfNothing();
        CHECKS.end();
    }

    private static void newObject() {
        CHECKS.sentence("All SLOTS hold 0; no IMAGE is kept");
        BasisMoves x = new BasisMoves();
        CHECKS.same("the slots", Checks.slots(x), "[] [] [] [] [] [] [] [] ");
        CHECKS.due("count(0)", x.count(0), 0);
        CHECKS.due("count(1)", x.count(1), 0);
        CHECKS.due("restore(0)", x.restore(0), -3);
        CHECKS.due("restore(1)", x.restore(1), -3);
    }

    private static void partitionNone() {
        CHECKS.sentence("They are numbered from 0 (which has no PART) to 29");
        BasisMoves x = new BasisMoves();
        int[] about = {0, 0, 0, 1, 1};
        for (int what = 0; what < about.length; what++) {
            CHECKS.due("about(0, " + what + ")", x.about(0, what), about[what]);
        }
        int[] ofLast = {6, 6, 19, 720, 1};
        for (int what = 0; what < ofLast.length; what++) {
            CHECKS.due("about(29, " + what + ")", x.about(29, what), ofLast[what]);
        }
        CHECKS.due("kostka(0, 0)", x.kostka(0, 0), 1);
        CHECKS.due("character(0, 0)", x.character(0, 0), 1001);
        CHECKS.due("above(0, 0)", x.above(0, 0), 1);
        CHECKS.due("count(10)", x.count(10), 1);
        CHECKS.due("count(20)", x.count(20), 0);
        for (int no : new int[] {-1, 30}) {
            CHECKS.due("part(" + no + ", 0)", x.part(no, 0), -1);
            CHECKS.due("about(" + no + ", 0)", x.about(no, 0), -1);
        }
    }

    private static void partitionsOfOrder() {
        CHECKS.sentence("by rising DEGREES; of one DEGREE the one that has the greater PART at the first place at "
                + "which two differ comes first");
        BasisMoves x = new BasisMoves();
        for (int a = 0; a < 29; a++) {
            int before = x.about(a, 0);
            int behind = x.about(a + 1, 0);
            int place = 0;
            while (place < 5 && x.part(a, place) == x.part(a + 1, place)) {
                place++;
            }
            boolean good = before < behind || before == behind && x.part(a, place) > x.part(a + 1, place);
            CHECKS.due(a + " comes before " + (a + 1), good ? 1 : 0, 1);
        }
        for (int a = 0; a < 30; a++) {
            int sum = 0;
            for (int k = 0; k < 6; k++) {
                sum += x.part(a, k);
            }
            CHECKS.due("all PARTS of " + a + " together", sum, x.about(a, 0));
        }
    }

    private static void conjugates() {
        CHECKS.sentence("its k-th PART is how many PARTS of the other one are no less than k");
        BasisMoves x = new BasisMoves();
        for (int a = 0; a < 30; a++) {
            int other = x.about(a, 2);
            CHECKS.due("the CONJUGATE's CONJUGATE of " + a, x.about(other, 2), a);
            CHECKS.due("the first PART of " + other, x.part(other, 0), x.about(a, 1));
            CHECKS.due("how many PARTS " + other + " has", x.about(other, 1), x.part(a, 0));
            CHECKS.due("the DEGREE of " + other, x.about(other, 0), x.about(a, 0));
        }
        for (int own : new int[] {0, 1, 5, 9, 15, 24}) {
            CHECKS.due("about(" + own + ", 2), its own", x.about(own, 2), own);
        }
        CHECKS.due("about(19, 2)", x.about(19, 2), 29);
        CHECKS.due("about(29, 2)", x.about(29, 2), 19);
    }

    private static void zNumbers() {
        CHECKS.sentence("k to the power of how many PARTS are k, times the factorial of how many these are");
        BasisMoves x = new BasisMoves();
        CHECKS.due("about(19, 3), of (6)", x.about(19, 3), 6);
        CHECKS.due("about(26, 3), of (2 2 2)", x.about(26, 3), 48);
        CHECKS.due("about(23, 3), of (3 3)", x.about(23, 3), 18);
        CHECKS.due("about(27, 3), of (2 2 1 1)", x.about(27, 3), 16);
        CHECKS.due("about(29, 3), of six ones", x.about(29, 3), 720);
        CHECKS.due("about(0, 3), of none", x.about(0, 3), 1);
    }

    private static void aboveItself() {
        CHECKS.sentence("ABOVE another one of the same DEGREE (or itself) .. (PARTS that there are not are 0)");
        BasisMoves x = new BasisMoves();
        int[] first = {0, 1, 2, 4, 7, 12, 19, 30};
        for (int degree = 0; degree <= 6; degree++) {
            int last = first[degree + 1] - 1;
            for (int a = first[degree]; a <= last; a++) {
                CHECKS.due("above(" + a + ", " + a + ")", x.above(a, a), 1);
                CHECKS.due("the first is above " + a, x.above(first[degree], a), 1);
                CHECKS.due(a + " is above the ones", x.above(a, last), 1);
                CHECKS.due("the ones above " + a, x.above(last, a), a == last ? 1 : 0);
                CHECKS.due(a + " above the first", x.above(a, first[degree]), a == first[degree] ? 1 : 0);
                CHECKS.due("of unlike DEGREES", x.above(a, degree == 6 ? 0 : first[degree + 1]), 0);
                CHECKS.due("of unlike DEGREES", x.above(degree == 6 ? 0 : 29, a), 0);
            }
        }
        for (int[] pair : new int[][] {{22, 23}, {25, 26}}) {
            CHECKS.due("neither is above the other", x.above(pair[0], pair[1]) + x.above(pair[1], pair[0]), 0);
        }
    }

    private static void tableauxOfUnlikeDegrees() {
        CHECKS.sentence("K .. (Of unlike DEGREES it is 0.)");
        BasisMoves x = new BasisMoves();
        for (int a = 0; a < 30; a++) {
            CHECKS.due("kostka(" + a + ", " + a + ")", x.kostka(a, a), 1);
            CHECKS.due("kostka(0, " + a + ")", x.kostka(0, a), a == 0 ? 1 : 0);
            CHECKS.due("kostka(" + a + ", 0)", x.kostka(a, 0), a == 0 ? 1 : 0);
            CHECKS.due("kostka(19, " + a + "), one row", x.kostka(19, a), a >= 19 ? 1 : 0);
            CHECKS.due("kostka(29, " + a + "), one column", x.kostka(29, a), a == 29 ? 1 : 0);
            CHECKS.due("kostka(" + a + ", 19), ones alone", x.kostka(a, 19), a == 19 ? 1 : 0);
        }
        x = new BasisMoves();
        for (int a = 19; a < 30; a++) {
            for (int b = 19; b < 30; b++) {
                CHECKS.due("kostka(" + a + ", " + b + ") above 0", x.kostka(a, b) > 0 ? 1 : 0, x.above(a, b));
            }
        }
    }

    private static void charactersOfUnlikeDegrees() {
        CHECKS.sentence("SCALAR of s(a) and p(b), 1000 added");
        BasisMoves x = new BasisMoves();
        for (int a = 0; a < 30; a++) {
            CHECKS.due("character(0, " + a + ")", x.character(0, a), a == 0 ? 1001 : 1000);
            CHECKS.due("character(" + a + ", 0)", x.character(a, 0), a == 0 ? 1001 : 1000);
            CHECKS.due("character(19, " + a + ")", x.character(19, a), a >= 19 ? 1001 : 1000);
            CHECKS.due("character(" + a + ", 29)", x.character(a, 29), a >= 19 ? 1000 + x.about(a, 4) : 1000);
        }
        x = new BasisMoves();
        int[] ofOnes = {-1, 1, 1, -1, 1, -1, 1, -1, 1, -1, 1};
        for (int b = 19; b < 30; b++) {
            CHECKS.due("character(29, " + b + "), signs", x.character(29, b), 1000 + ofOnes[b - 19]);
        }
    }

    private static void membersOfNone() {
        CHECKS.sentence("m(0) is 1 .. (e(0), h(0), p(0), s(0) are 1.)");
        for (int base = 0; base < 5; base++) {
            BasisMoves x = new BasisMoves();
            CHECKS.due("put(0, " + base + ", 0, 1)", x.put(0, base, 0, 1), 1);
            CHECKS.same("what is held", Checks.weights(x, 0), "0:1 ");
            CHECKS.due("degree(0)", x.degree(0), 0);
            CHECKS.due("value(0, 0, 0, 0)", x.value(0, 0, 0, 0), 1);
            CHECKS.due("value(0, 9, -9, 9)", x.value(0, 9, -9, 9), 1);
            CHECKS.due("scalar(0, 0)", x.scalar(0, 0), 1);
            for (int told = 0; told < 5; told++) {
                CHECKS.same("by base " + told, Checks.numbers(x, 0, told), told == 3 ? "0:1/1 " : "0:1 ");
            }
            CHECKS.due("put(1, 4, 24, 1)", x.put(1, 4, 24, 1), 1);
            CHECKS.due("times(2, 0, 1), 1 times s(3 2 1)", x.times(2, 0, 1), 1);
            CHECKS.same("what is held", Checks.numbers(x, 2, 4), "24:1 ");
        }
    }

    private static void sumNone() {
        CHECKS.sentence("The DEGREE .. of the SUM 0: NONE");
        BasisMoves x = new BasisMoves();
        for (int slot = 0; slot < 8; slot++) {
            CHECKS.due("degree(" + slot + ")", x.degree(slot), NONE);
            CHECKS.due("value(" + slot + ", 9, 9, 9)", x.value(slot, 9, 9, 9), 0);
            CHECKS.due("scalar(" + slot + ", 0)", x.scalar(slot, 0), 0);
        }
        for (int base = 0; base < 5; base++) {
            CHECKS.due("next(0, " + base + ", 0)", x.next(0, base, 0), NONE);
            for (int a = 0; a < 30; a++) {
                CHECKS.due("coefficient(0, " + base + ", " + a + ", 0)", x.coefficient(0, base, a, 0), 0);
                CHECKS.due("coefficient(0, " + base + ", " + a + ", 1)", x.coefficient(0, base, a, 1), 1);
            }
        }
    }

    private static void sumNoneWorked() {
        CHECKS.sentence("SLOTS 0 to 7 hold a SUM each, 0 at first (work with the SUM 0)");
        for (int base = 0; base < 5; base++) {
            for (int a : new int[] {0, 1, 24, 29}) {
                BasisMoves x = new BasisMoves();
                CHECKS.due("put(0, ..)", x.put(0, base, a, 1), 1);
                String before = Checks.weights(x, 0);
                CHECKS.due("scalar(0, 1)", x.scalar(0, 1), 0);
                CHECKS.due("scalar(1, 0)", x.scalar(1, 0), 0);
                emptied(x, "times(2, 0, 1)", y -> y.times(2, 0, 1));
                emptied(x, "times(2, 1, 0)", y -> y.times(2, 1, 0));
                emptied(x, "times(2, 1, 1)", y -> y.times(2, 1, 1));
                emptied(x, "turn(2, 1)", y -> y.turn(2, 1));
                emptied(x, "strip(2, 0, 1)", y -> y.strip(2, 0, 1));
                emptied(x, "strip(2, 1, 0)", y -> y.strip(2, 1, 0));
                emptied(x, "meet(2, 0, 1)", y -> y.meet(2, 0, 1));
                emptied(x, "meet(2, 1, 0)", y -> y.meet(2, 1, 0));
                emptied(x, "plug(2, 1, 1)", y -> y.plug(2, 1, 1));
                CHECKS.due("add(0, 1, 1000)", x.add(0, 1, 1000), 1);
                CHECKS.same("what is held", Checks.weights(x, 0), before);
                CHECKS.due("add(1, 0, 0), 0 times", x.add(1, 0, 0), 1);
                CHECKS.due("degree(1)", x.degree(1), NONE);
                CHECKS.due("times(0, 0, 1)", x.times(0, 0, 1), 1);
                CHECKS.due("count(0)", x.count(0), 0);
            }
        }
    }

    /** A call that must make slot 2, which held something, hold 0. */
    private static void emptied(BasisMoves x, String call, Checks.Call made) {
        CHECKS.due("put(2, 4, 8, 3)", x.put(2, 4, 8, 3), 1);
        CHECKS.due(call, made.on(x), 1);
        CHECKS.due("after " + call + " degree(2)", x.degree(2), NONE);
        CHECKS.due("after " + call + " count(0)", x.count(0), 1);
    }

    private static void sumNoneFromOthers() {
        CHECKS.sentence("How many SLOTS do not hold 0 (a SUM that has come to be 0 is 0)");
        BasisMoves x = new BasisMoves();
        for (int slot = 0; slot < 8; slot++) {
            CHECKS.due("put", x.put(slot, 2, 29, 1), 1);
            CHECKS.due("count(0)", x.count(0), slot + 1);
        }
        CHECKS.due("put(7, 2, 29, 0)", x.put(7, 2, 29, 0), 1);
        CHECKS.due("count(0)", x.count(0), 7);
        CHECKS.due("add(6, 6, -1)", x.add(6, 6, -1), 1);
        CHECKS.due("count(0)", x.count(0), 6);
        CHECKS.due("add(5, 4, -1)", x.add(5, 4, -1), 1);
        CHECKS.due("count(0)", x.count(0), 5);
        CHECKS.due("strip(4, 3, 5), of 0", x.strip(4, 3, 5), 1);
        CHECKS.due("count(0)", x.count(0), 4);
        // h(1 1) = m(2) + 2 m(1 1), h(2) = m(2) + m(1 1), m(1 1): all of it taken off
        CHECKS.due("put(0, 2, 3, 1)", x.put(0, 2, 3, 1), 1);
        CHECKS.due("put(1, 2, 2, 1)", x.put(1, 2, 2, 1), 1);
        CHECKS.due("put(2, 0, 3, 1)", x.put(2, 0, 3, 1), 1);
        CHECKS.due("add(0, 1, -1)", x.add(0, 1, -1), 1);
        CHECKS.due("add(0, 2, -1)", x.add(0, 2, -1), 1);
        CHECKS.due("degree(0)", x.degree(0), NONE);
        CHECKS.due("count(0)", x.count(0), 3);
    }

    private static void numbersInLowestTerms() {
        CHECKS.sentence("the upper number of the fraction in lowest terms, the lower one, above 0 (1, if it is whole)");
        BasisMoves x = new BasisMoves();
        // m(1 1) = p(1 1)/2 - p(2)/2
        String[] due = {"2:1/2 3:-1/2 ", "2:-1/2 3:1/2 ", "2:-1/1 3:1/1 ", "2:-3/2 3:3/2 ", "2:500/1 3:-500/1 "};
        int[] times = {-1, 1, 2, 3, -1000};
        for (int i = 0; i < times.length; i++) {
            CHECKS.due("put(0, 0, 3, " + times[i] + ")", x.put(0, 0, 3, times[i]), 1);
            CHECKS.same("by base 3", Checks.numbers(x, 0, 3), due[i]);
        }
        // e(6) and h(6): 1/z before each p(a), with signs for e
        int[] zs = {6, 5, 8, 8, 18, 6, 18, 48, 16, 48, 720};
        int[] signs = {-1, 1, 1, -1, 1, -1, 1, -1, 1, -1, 1};
        CHECKS.due("put(1, 1, 19, 1)", x.put(1, 1, 19, 1), 1);
        CHECKS.due("put(2, 2, 19, -1)", x.put(2, 2, 19, -1), 1);
        for (int i = 0; i < 11; i++) {
            CHECKS.due("upper of e(6)", x.coefficient(1, 3, 19 + i, 0), signs[i]);
            CHECKS.due("lower of e(6)", x.coefficient(1, 3, 19 + i, 1), zs[i]);
            CHECKS.due("upper of -h(6)", x.coefficient(2, 3, 19 + i, 0), -1);
            CHECKS.due("lower of -h(6)", x.coefficient(2, 3, 19 + i, 1), zs[i]);
            CHECKS.due("put", x.put(3, 2, 19, -zs[i]), 1);
            CHECKS.due("upper of -z h(6)", x.coefficient(3, 3, 19 + i, 0), -1);
            CHECKS.due("lower of -z h(6)", x.coefficient(3, 3, 19 + i, 1), 1);
        }
    }

    private static void wholeInAllBasesButPowers() {
        CHECKS.sentence("numbers times members of each BASE, added: whole numbers, of BASE 3 fractions");
        for (int base : new int[] {0, 1, 2, 4}) {
            for (int put = 0; put < 5; put++) {
                BasisMoves x = new BasisMoves();
                CHECKS.due("put", x.put(0, put, 24, -7), 1);
                for (int a = 0; a < 30; a++) {
                    CHECKS.due("lower by base " + base + " of " + a, x.coefficient(0, base, a, 1), 1);
                }
                CHECKS.due("of its own base", x.coefficient(0, put, 24, 0), -7);
            }
        }
    }

    private static void scalarByParts() {
        CHECKS.sentence("SCALAR .. is 1 for h(a) and m(a), and 0 for h(a) and m(b), b being another one");
        for (int a = 0; a < 30; a++) {
            BasisMoves x = new BasisMoves();
            CHECKS.due("put(0, 2, " + a + ", 1)", x.put(0, 2, a, 1), 1);
            for (int b = 0; b < 30; b++) {
                CHECKS.due("put(1, 0, " + b + ", 1)", x.put(1, 0, b, 1), 1);
                CHECKS.due("scalar of h(" + a + ") and m(" + b + ")", x.scalar(0, 1), a == b ? 1 : 0);
                CHECKS.due("scalar of m(" + b + ") and h(" + a + ")", x.scalar(1, 0), a == b ? 1 : 0);
            }
        }
        BasisMoves x = new BasisMoves();
        // (2 h(0) - 3 h(2)) and (5 m(0) + 7 m(2) + 11 m(1 1)): 10 - 21
        CHECKS.plus(x, 0, 2, 0, 2);
        CHECKS.plus(x, 0, 2, 2, -3);
        CHECKS.plus(x, 1, 0, 0, 5);
        CHECKS.plus(x, 1, 0, 2, 7);
        CHECKS.plus(x, 1, 0, 3, 11);
        CHECKS.due("scalar(0, 1)", x.scalar(0, 1), -11);
        CHECKS.due("scalar(1, 0)", x.scalar(1, 0), -11);
        // by p(a): z of a with itself, so the greatest one there is
        CHECKS.due("put(2, 3, 29, 138)", x.put(2, 3, 29, 138), 1);
        CHECKS.due("scalar(2, 2)", x.scalar(2, 2), 138L * 138 * 720);
    }

    private static void turnedTwice() {
        CHECKS.sentence("TURNED: h(a) in place of each e(a), with the numbers that are before these");
        for (int a = 0; a < 30; a++) {
            BasisMoves x = new BasisMoves();
            CHECKS.due("put(0, 1, " + a + ", -9)", x.put(0, 1, a, -9), 1);
            CHECKS.due("turn(1, 0)", x.turn(1, 0), 1);
            CHECKS.same("by base 2", Checks.numbers(x, 1, 2), a + ":-9 ");
            CHECKS.due("turn(1, 1), back", x.turn(1, 1), 1);
            CHECKS.same("by base 1", Checks.numbers(x, 1, 1), a + ":-9 ");
            CHECKS.due("put(2, 4, " + a + ", 1)", x.put(2, 4, a, 1), 1);
            CHECKS.due("turn(2, 2)", x.turn(2, 2), 1);
            CHECKS.same("by base 4", Checks.numbers(x, 2, 4), x.about(a, 2) + ":1 ");
        }
    }

    private static void strippedAboveSix() {
        CHECKS.sentence("(where a times s(c) would be of a DEGREE above 6 its part above that is left out)");
        BasisMoves x = new BasisMoves();
        // a = 2 + 3 s(1) + 5 s(6), b = s(6): 5 s(0), 3 s(5), 2 s(6)
        CHECKS.plus(x, 0, 4, 0, 2);
        CHECKS.plus(x, 0, 4, 1, 3);
        CHECKS.plus(x, 0, 4, 19, 5);
        CHECKS.due("put(1, 4, 19, 1)", x.put(1, 4, 19, 1), 1);
        CHECKS.due("strip(2, 0, 1)", x.strip(2, 0, 1), 1);
        CHECKS.same("by base 4", Checks.numbers(x, 2, 4), "0:5 12:3 19:2 ");
        // b = s(6) + s(1 1): with s(1 1) 2 of itself, 3 s(1)
        CHECKS.plus(x, 1, 4, 3, 1);
        CHECKS.due("strip(2, 0, 1)", x.strip(2, 0, 1), 1);
        CHECKS.same("by base 4", Checks.numbers(x, 2, 4), "0:5 1:3 3:2 12:3 19:2 ");
        CHECKS.due("strip(2, 1, 0), the other way", x.strip(2, 1, 0), 1);
        CHECKS.same("by base 4", Checks.numbers(x, 2, 4), "0:5 ");
        // of one that is greater, or of a greater degree, nothing is left
        CHECKS.due("put(3, 4, 29, 1)", x.put(3, 4, 29, 1), 1);
        CHECKS.due("put(4, 4, 19, 1)", x.put(4, 4, 19, 1), 1);
        CHECKS.due("strip(5, 3, 4)", x.strip(5, 3, 4), 1);
        CHECKS.due("degree(5)", x.degree(5), NONE);
        CHECKS.due("strip(5, 3, 3)", x.strip(5, 3, 3), 1);
        CHECKS.same("what is held", Checks.weights(x, 5), "0:1 ");
    }

    private static void metWithAnother() {
        CHECKS.sentence("p(c) with itself is z of c times p(c); with another p(d): 0");
        for (int c = 0; c < 30; c++) {
            BasisMoves x = new BasisMoves();
            int z = x.about(c, 3);
            CHECKS.due("put(0, 3, " + c + ", 1)", x.put(0, 3, c, 1), 1);
            for (int d = 0; d < 30; d++) {
                // z of (1 1 1 1 1 1) times p of it has a weight 518400
                int due = c == 29 && d == 29 ? -4 : 1;
                CHECKS.due("put(1, 3, " + d + ", 1)", x.put(1, 3, d, 1), 1);
                CHECKS.due("put(2, 0, 1, 5)", x.put(2, 0, 1, 5), 1);
                CHECKS.due("meet(2, 0, 1), " + c + " and " + d, x.meet(2, 0, 1), due);
                String held = c == d ? c + ":" + z + "/1 " : "";
                CHECKS.same("by base 3", Checks.numbers(x, 2, 3), due == 1 ? held : "1:5/1 ");
            }
        }
    }

    private static void pluggedNoParts() {
        CHECKS.sentence("p(c) plugged with b is the product of b[k] for all PARTS k of c (1, if there are none)");
        BasisMoves x = new BasisMoves();
        CHECKS.due("put(0, 3, 0, 1)", x.put(0, 3, 0, 1), 1);
        CHECKS.due("plug(2, 0, 1), 1 with 0", x.plug(2, 0, 1), 1);
        CHECKS.same("what is held", Checks.weights(x, 2), "0:1 ");
        CHECKS.due("put(1, 4, 29, 1)", x.put(1, 4, 29, 1), 1);
        CHECKS.due("plug(2, 0, 1), 1 with e(6)", x.plug(2, 0, 1), 1);
        CHECKS.same("what is held", Checks.weights(x, 2), "0:1 ");
        // 5 + 3 p(1) with 0: 5; with 2: 11
        CHECKS.plus(x, 3, 3, 0, 5);
        CHECKS.plus(x, 3, 3, 1, 3);
        CHECKS.due("plug(2, 3, 6), with 0", x.plug(2, 3, 6), 1);
        CHECKS.same("what is held", Checks.weights(x, 2), "0:5 ");
        CHECKS.due("put(4, 0, 0, 2)", x.put(4, 0, 0, 2), 1);
        CHECKS.due("plug(2, 3, 4), with 2", x.plug(2, 3, 4), 1);
        CHECKS.same("what is held", Checks.weights(x, 2), "0:11 ");
        for (int a = 1; a < 30; a++) {
            CHECKS.due("put(5, 3, " + a + ", 1)", x.put(5, 3, a, 1), 1);
            CHECKS.due("plug(2, 5, 4), with 2", x.plug(2, 5, 4), 1);
            CHECKS.same("what is held", Checks.weights(x, 2), "0:" + (1 << x.about(a, 1)) + " ");
        }
        x = new BasisMoves();
        for (int k = 1; k <= 6; k++) {
            // p(k) with -9 m(1) + 4: b[k] is -9 m(k) + 4
            int alone = x.count(20 + k);
            CHECKS.due("put", x.put(0, 0, alone, 1), 1);
            CHECKS.due("put", x.put(1, 0, 0, 0), 1);
            CHECKS.plus(x, 1, 0, 1, -9);
            CHECKS.plus(x, 1, 0, 0, 4);
            CHECKS.due("plug(2, 0, 1), p(" + k + ")", x.plug(2, 0, 1), 1);
            CHECKS.same("what is held", Checks.weights(x, 2), "0:4 " + alone + ":-9 ");
        }
    }

    private static void imagesOfNothing() {
        CHECKS.sentence("All SLOTS hold what they held when that was kept (0 among them)");
        BasisMoves x = new BasisMoves();
        CHECKS.due("image(0)", x.image(0), 1);
        CHECKS.due("count(1)", x.count(1), 1);
        for (int slot = 0; slot < 8; slot++) {
            CHECKS.due("put", x.put(slot, slot % 5, 29 - slot, slot + 1), 1);
        }
        String filled = Checks.slots(x);
        CHECKS.due("image(1)", x.image(1), 1);
        CHECKS.due("restore(0)", x.restore(0), 1);
        CHECKS.due("count(0)", x.count(0), 0);
        CHECKS.due("restore(0), once more", x.restore(0), 1);
        CHECKS.due("count(1)", x.count(1), 3);
        CHECKS.due("restore(1)", x.restore(1), 1);
        CHECKS.same("the slots", Checks.slots(x), filled);
        CHECKS.due("image(0), of another state", x.image(0), 1);
        CHECKS.due("put(3, 0, 0, 0)", x.put(3, 0, 0, 0), 1);
        CHECKS.due("restore(0)", x.restore(0), 1);
        CHECKS.same("the slots", Checks.slots(x), filled);
    }
}

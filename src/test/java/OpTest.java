/** Promise 3 by hand: each OP's ordinary inputs, its edges and wrong inputs. */
public final class OpTest {
    private static final int MIN = Integer.MIN_VALUE;
    private static final int MAX = Integer.MAX_VALUE;

    public static void main(String[] args) {
        sums();
        differences();
        bitwise();
        shifts();
        products();
        below();
        belowWithoutSign();
        same();
        choice();
        operandsAsTheyWere();
        onlyTheTargetChanges();
        wrongInputsThrowAndChangeNothing();
        Check.end();
    }

    private static void op(int op, int a, int notA, int b, int notB, int value, int not) {
        ShadowMath x = new ShadowMath();
        x.set(1, a, notA);
        x.set(2, b, notB);
        x.set(3, 0x5A5A5A5A, 0x00FF00FF);
        x.op(op, 3, 1, 2);
        String what = " of op " + op + " on " + a + "/" + notA + ", " + b + "/" + notB;
        Check.due("value" + what, x.value(3), value);
        Check.due("not" + what, x.not(3), not);
    }

    private static void sums() {
        op(0, 12, 4, 5, 0, 17, -4);
        op(0, 12, 0, 5, 0, 17, 0);
        op(0, MAX, 0, 1, 0, MIN, 0);
        op(0, -1, 0, 1, 1, 0, -1);
        op(0, 0, 0, 0, MIN, 0, MIN);
        op(0, 0, 16, 0, 4, 0, -4);
        op(0, 0, 4, 0, 16, 0, -4);
        op(0, 0, -1, 0, -1, 0, -1);
    }

    private static void differences() {
        op(1, 12, 4, 5, 0, 7, -4);
        op(1, 5, 0, 12, 0, -7, 0);
        op(1, MIN, 0, 1, 0, MAX, 0);
        op(1, 0, MIN, 0, 0, 0, MIN);
        op(1, 0, 8, 0, 0x40, 0, -8);
    }

    private static void bitwise() {
        // All sixteen pairs of what two bits can be: 0 or 1, GIVEN or not.
        int a = 0b0101_0101_0101_0101;
        int notA = 0b1100_1100_1100_1100;
        int b = 0b1111_0000_1111_0000;
        int notB = 0b1111_1111_0000_0000;
        op(2, a, notA, b, notB, a & b, 0b1101_1101_1100_0000);
        op(3, a, notA, b, notB, a | b, 0b1110_1110_0000_1100);
        op(4, a, notA, b, notB, a ^ b, 0b1111_1111_1100_1100);
        op(2, -1, -1, 0, 0, 0, 0);
        op(2, 0, 0, -1, -1, 0, 0);
        op(3, 0, -1, -1, 0, -1, 0);
        op(3, -1, 0, 0, -1, -1, 0);
        op(4, -1, MIN, -1, 1, 0, MIN | 1);
    }

    private static void shifts() {
        op(5, 3, 1, 4, 0, 48, 16);
        op(5, -1, -1, 31, 0, MIN, MIN);
        op(5, -1, MIN, 1, 0, -2, 0);
        op(5, 1, 1, 0, 0, 1, 1);
        op(5, 1, 1, 32, 0, 1, 1);
        op(5, 1, 1, -1, ~31, MIN, MIN);
        op(6, -1, MIN, 4, 0, 0x0FFFFFFF, 0x08000000);
        op(6, -1, -1, 31, 0, 1, 1);
        op(6, -16, 8, 36, 0, 0x0FFFFFFF, 0);
        op(7, -16, 0, 2, 0, -4, 0);
        op(7, -16, MIN, 2, 0, -4, 0xE0000000);
        op(7, 16, MIN, 4, 0, 1, 0xF8000000);
        op(7, 0, MIN, 31, 0, 0, -1);
        op(7, MIN, MAX, 31, 0, -1, 0);
        op(7, MAX, 0x40000000, 30, 0, 1, 1);
        for (int op = 5; op <= 7; op++) {
            for (int place = 0; place < 5; place++) {
                op(op, 0, 0, 0, 1 << place, 0, -1);
            }
            op(op, 6, 2, 0, 32, 6, 2);
            op(op, 6, 2, 0, ~31, 6, 2);
            op(op, 0, 0, 0, -1, 0, -1);
        }
        op(5, 1, 0, 3, 1, 8, -1);
    }

    private static void products() {
        op(8, 12, 4, 5, 0, 60, -4);
        op(8, 5, 0, 12, 4, 60, -4);
        op(8, 3, 1, 8, 0, 24, -8);
        op(8, 8, 0, 3, 2, 24, -16);
        // Zeros that are not GIVEN do not lift the place.
        op(8, 3, 1, 8, 2, 24, -2);
        op(8, 4, 0x100, 16, 0x40, 64, -256);
        op(8, 16, 0x40, 4, 0x100, 64, -256);
        op(8, -1, -1, 0, 0, 0, 0);
        op(8, 0, 0, -1, -1, 0, 0);
        op(8, 0, -1, 0, -1, 0, -1);
        op(8, 0, MIN, 2, 0, 0, 0);
        op(8, 0, MIN, 1, 0, 0, MIN);
        op(8, 0, 0x10000, 0x10000, 0, 0, 0);
        op(8, 0, 0x8000, 0x10000, 0, 0, MIN);
        op(8, 0, MIN, 0, MIN, 0, 0);
        op(8, 0x10000, 0, 0x10000, 0, 0, 0);
        op(8, MIN, 0, -1, 0, MIN, 0);
        op(8, -3, 0, 7, 0, -21, 0);
    }

    private static void below() {
        op(9, 12, 4, 5, 0, 0, 0);
        op(9, 4, 4, 5, 0, 1, 0);
        op(9, 4, 1, 5, 0, 1, 1);
        op(9, 5, 0, 4, 1, 0, 0);
        op(9, 4, 0, 4, 1, 0, 1);
        op(9, 4, 0, 5, 1, 1, 1);
        op(9, 5, 1, 5, 0, 0, 1);
        op(9, -1, 0, 0, 0, 1, 0);
        op(9, 0, 0, -1, 0, 0, 0);
        op(9, 3, 0, 3, 0, 0, 0);
        op(9, 0, MIN, 0, 0, 0, 1);
        op(9, -1, MIN, -1, 0, 0, 0);
        op(9, MAX, 0, -1, -1, 0, 0);
        op(9, MIN, 0, MIN, -1, 0, 1);
        op(9, -1, -1, MIN, 0, 0, 0);
        op(9, 0, -1, MAX, 0, 1, 1);
    }

    private static void belowWithoutSign() {
        op(10, -1, MIN, 12, 4, 0, 0);
        op(10, 0, 0, -1, 0, 1, 0);
        op(10, -1, 0, 0, 0, 0, 0);
        op(10, MAX, 0, MIN, 0, 1, 0);
        op(10, 3, 0, 3, 0, 0, 0);
        op(10, -1, 0, 0, -1, 0, 0);
        op(10, 5, -1, 0, 0, 0, 0);
        op(10, 0, 0, 0, MIN, 0, 1);
        op(10, 1, 0, 5, MIN, 1, 0);
        op(10, 0, MIN, 1, 0, 1, 1);
        op(10, 8, 1, 9, 0, 1, 1);
        op(10, 9, 1, 10, 0, 1, 0);
    }

    private static void same() {
        op(11, 12, 4, 5, 0, 0, 0);
        op(11, 7, 0, 7, 0, 1, 0);
        op(11, 7, 0, 6, 0, 0, 0);
        op(11, 7, 1, 6, 0, 0, 1);
        op(11, 7, 0, 7, MIN, 1, 1);
        op(11, 7, 1, 5, 1, 0, 0);
        op(11, 7, 2, 5, 1, 0, 1);
        op(11, 0, -1, 0, -1, 1, 1);
        op(11, MIN, 1, 0, 0, 0, 0);
    }

    private static void choice() {
        choose(12, 4, 1, 0, 5, 2, 12, 4);
        choose(12, 4, 0, 0, 5, 2, 5, 2);
        choose(12, 4, 3, 2, 5, 2, 12, 4);
        choose(12, 4, -2, -2, 5, 2, 5, 2);
        choose(12, 4, 1, 1, 5, 0, 12, 13);
        choose(12, 4, 0, 1, 5, 0, 5, 13);
        choose(12, 0, 0, 1, 12, 0, 12, 0);
        choose(12, 16, 1, -1, 12, 32, 12, 48);
        choose(0, -1, 1, 1, 0, -1, 0, -1);
        choose(MIN, 0, 1, 1, 0, 0, MIN, MIN);
    }

    private static void choose(int a, int notA, int b, int notB, int d, int notD, int value, int not) {
        ShadowMath x = new ShadowMath();
        x.set(0, d, notD);
        x.set(14, a, notA);
        x.set(15, b, notB);
        x.op(12, 0, 14, 15);
        String what = " of choice " + a + "/" + notA + ", " + b + "/" + notB + ", " + d + "/" + notD;
        Check.due("value" + what, x.value(0), value);
        Check.due("not" + what, x.not(0), not);
    }

    private static void operandsAsTheyWere() {
        into(0, 1, 12, 4, 5, 0, 17, -4);
        into(1, 2, 12, 0, 5, 8, 7, -8);
        into(2, 1, 6, 3, 5, 4, 4, 5);
        into(5, 2, 1, 1, 3, 32, 8, 8);
        into(8, 1, 8, 0, 3, 2, 24, -16);
        into(8, 2, 8, 0, 3, 2, 24, -16);
        into(9, 1, 4, 1, 5, 0, 1, 1);
        into(11, 2, 7, 1, 6, 0, 0, 1);
        into(12, 1, 12, 4, 0, 1, 12, 4);
        into(12, 2, 12, 4, 5, 0, 12, 4);
        into(12, 2, 12, 4, 5, 1, 12, 13);
        // Both operands in one register: the bits that are not GIVEN are each side's own.
        square(1, 6, 2, 0, -2);
        square(4, 6, 2, 0, 2);
        square(9, 6, 2, 0, 1);
        square(10, 6, 2, 0, 1);
        square(11, 6, 2, 1, 1);
        square(11, 6, 0, 1, 0);
        square(8, 8, 16, 64, -128);
        square(12, 6, 3, 6, 3);
    }

    private static void into(int op, int d, int a, int notA, int b, int notB, int value, int not) {
        ShadowMath x = new ShadowMath();
        x.set(1, a, notA);
        x.set(2, b, notB);
        x.op(op, d, 1, 2);
        Check.due("value of op " + op + " into " + d, x.value(d), value);
        Check.due("not of op " + op + " into " + d, x.not(d), not);
        Check.due("value of the other", x.value(3 - d), d == 1 ? b : a);
        Check.due("not of the other", x.not(3 - d), d == 1 ? notB : notA);
    }

    private static void square(int op, int a, int notA, int value, int not) {
        for (int d = 6; d <= 7; d++) {
            ShadowMath x = new ShadowMath();
            x.set(6, a, notA);
            x.set(7, a, notA);
            x.op(op, d, 6, 6);
            Check.due("value of op " + op + " on one register", x.value(d), value);
            Check.due("not of op " + op + " on one register", x.not(d), not);
        }
    }

    private static void onlyTheTargetChanges() {
        for (int op = 0; op <= 12; op++) {
            ShadowMath x = new ShadowMath();
            for (int r = 0; r < 16; r++) {
                x.set(r, 77 * r, r);
            }
            x.set(1, 1, 0);
            x.store(9, 40, 4);
            x.op(op, 5, 4, 1);
            x.set(5, 0, 0);
            for (int r = 0; r < 16; r++) {
                if (r != 5) {
                    Check.due("value of " + r + " after op " + op, x.value(r), r == 1 ? 1 : 77 * r);
                    Check.due("not of " + r + " after op " + op, x.not(r), r == 1 ? 0 : r);
                }
            }
            Check.due("octet after op " + op, x.octet(40), (693 & 255) + 256 * 9);
        }
    }

    private static void wrongInputsThrowAndChangeNothing() {
        ShadowMath x = twoSet();
        for (int op : new int[] {-1, 13, 14, 256, MIN, MAX}) {
            Check.badArgument("op " + op, () -> x.op(op, 0, 0, 0));
            Check.badArgument("op " + op + " on none", () -> x.op(op, 16, -1, 99));
        }
        for (int op = 0; op <= 12; op++) {
            int known = op;
            for (int r : new int[] {-1, 16, MIN, MAX}) {
                Check.badIndex("op to " + r, () -> x.op(known, r, 0, 15));
                Check.badIndex("op of a " + r, () -> x.op(known, 0, r, 15));
                Check.badIndex("op of b " + r, () -> x.op(known, 0, 15, r));
            }
        }
        Check.dueState("after wrong ops", x, Check.state(twoSet()));
    }

    private static ShadowMath twoSet() {
        ShadowMath x = new ShadowMath();
        x.set(0, 3, 1);
        x.set(15, 9, 4);
        return x;
    }
}

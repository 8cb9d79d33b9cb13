import java.util.Random;

/**
 * Promises 3, 8 and 9 by trying every case: all that the bits which are not GIVEN may be is
 * tried, and what varies is compared with what the object says is not GIVEN.
 */
public final class EveryCaseTest {
    private static final int LAST_OP = 12;

    public static void main(String[] args) {
        Random random = new Random(20261115);
        for (int round = 0; round < 6000; round++) {
            tryOps(random);
            tryEnds(random);
        }
        Check.end();
    }

    private static void tryOps(Random random) {
        int[] value = new int[3];
        int[] not = new int[3];
        for (int i = 0; i < 3; i++) {
            value[i] = someValue(random);
            not[i] = fewBits(random);
        }
        if (random.nextInt(3) == 0) {
            value[1] = value[0] ^ fewBits(random);
        }
        for (int op = 0; op <= LAST_OP; op++) {
            tryOp(op, value, not);
        }
    }

    private static void tryOp(int op, int[] value, int[] not) {
        ShadowMath x = new ShadowMath();
        for (int i = 0; i < 3; i++) {
            x.set(i, value[i], not[i]);
        }
        x.op(op, 2, 0, 1);
        int made = x.value(2);
        int said = x.not(2);
        int varies = varying(op, value, not);
        String what = "op " + op + " on " + value[0] + "/" + not[0] + ", " + value[1] + "/" + not[1]
                + " to " + value[2] + "/" + not[2];
        Check.due("value of " + what, made, plain(op, value[0], value[1], value[2]));
        Check.due("bits that vary but are GIVEN, " + what, varies & ~said, 0);
        if (isExact(op, not)) {
            Check.due("not of " + what, said, varies);
        }
    }

    /** Sums, products, and shifts by what is not wholly GIVEN lose more than what varies. */
    private static boolean isExact(int op, int[] not) {
        if (op >= 5 && op <= 7) {
            return (not[1] & 31) == 0;
        }
        return op >= 2 && op != 8;
    }

    /** The bits in which some outcome differs from the one that stands. */
    private static int varying(int op, int[] value, int[] not) {
        // A choice alone hangs on what the target had; for the others one case of it is enough.
        int notD = op == LAST_OP ? not[2] : 0;
        int stands = plain(op, value[0], value[1], value[2]);
        int varies = 0;
        int a = 0;
        do {
            int b = 0;
            do {
                int d = 0;
                do {
                    varies |= stands ^ plain(op, value[0] ^ a, value[1] ^ b, value[2] ^ d);
                    d = (d - notD) & notD;
                } while (d != 0);
                b = (b - not[1]) & not[1];
            } while (b != 0);
            a = (a - not[0]) & not[0];
        } while (a != 0);
        return varies;
    }

    private static int plain(int op, int a, int b, int d) {
        switch (op) {
            case 0: return a + b;
            case 1: return a - b;
            case 2: return a & b;
            case 3: return a | b;
            case 4: return a ^ b;
            case 5: return a << b;
            case 6: return a >>> b;
            case 7: return a >> b;
            case 8: return a * b;
            case 9: return Integer.compare(a, b) < 0 ? 1 : 0;
            case 10: return Integer.compareUnsigned(a, b) < 0 ? 1 : 0;
            case 11: return a == b ? 1 : 0;
            default: return b % 2 != 0 ? a : d;
        }
    }

    private static void tryEnds(Random random) {
        int value = someValue(random);
        int not = fewBits(random);
        int least = value;
        int greatest = value;
        int turned = 0;
        do {
            least = Math.min(least, value ^ turned);
            greatest = Math.max(greatest, value ^ turned);
            turned = (turned - not) & not;
        } while (turned != 0);
        ShadowMath x = new ShadowMath();
        x.set(0, value, not);
        Check.due("least of " + value + "/" + not, x.least(0), least);
        Check.due("greatest of " + value + "/" + not, x.greatest(0), greatest);
    }

    private static int someValue(Random random) {
        switch (random.nextInt(5)) {
            case 0: return random.nextInt(8);
            case 1: return -random.nextInt(8);
            case 2: return 1 << random.nextInt(32);
            case 3: return random.nextInt() << random.nextInt(32);
            default: return random.nextInt();
        }
    }

    /** At most four bits, so that all cases of three registers can be tried. */
    private static int fewBits(Random random) {
        int bits = 0;
        int n = random.nextInt(5);
        int bound = random.nextBoolean() ? 32 : 5;
        for (int i = 0; i < n; i++) {
            bits |= 1 << random.nextInt(bound);
        }
        return random.nextInt(4) == 0 ? bits << 27 : bits;
    }
}

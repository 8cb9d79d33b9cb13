/**
 * Registers and memory of which some bits were never given, and what can be
 * relied on of what is made of them. The document's numbered promises say what
 * each call does.
 */
public final class ShadowMath {
    private static final int REGISTERS = 16;
    private static final int OCTETS = 256;
    private static final int WORD_BITS = 32;
    private static final int OCTET_BITS = 8;
    private static final int OCTET_MASK = 255;
    private static final int SHIFT_MASK = 31;
    private static final int SIGN = Integer.MIN_VALUE;
    private static final int ALL = -1;

    private static final int ADD = 0;
    private static final int SUBTRACT = 1;
    private static final int AND = 2;
    private static final int OR = 3;
    private static final int EXCLUSIVE_OR = 4;
    private static final int LEFT = 5;
    private static final int RIGHT_WITHOUT_SIGN = 6;
    private static final int RIGHT_WITH_SIGN = 7;
    private static final int MULTIPLY = 8;
    private static final int BELOW_WITH_SIGN = 9;
    private static final int BELOW_WITHOUT_SIGN = 10;
    private static final int SAME = 11;
    private static final int CHOOSE = 12;

    private final int[] values;

    /** Of each register, 1 where a bit is not GIVEN. */
    private final int[] shadows;

    /** Octets in the very form that octet answers, so that one row holds both halves. */
    private final int[] memory;

    public ShadowMath() {
        values = new int[REGISTERS];
        shadows = new int[REGISTERS];
        memory = new int[OCTETS];
    }

    public void set(int r, int v, int not) throws IndexOutOfBoundsException {
        checkRegister(r);
        values[r] = v;
        shadows[r] = not;
    }

    public void op(int op, int d, int a, int b) throws IllegalArgumentException, IndexOutOfBoundsException {
        if (op < ADD || op > CHOOSE) {
            throw new IllegalArgumentException();
        }
        checkRegister(d);
        checkRegister(a);
        checkRegister(b);
        // d may be a or b: both halves are made before either is written.
        int value = valueOf(op, d, a, b);
        int shadow = shadowOf(op, d, a, b);
        values[d] = value;
        shadows[d] = shadow;
    }

    public void store(int r, int at, int n) throws IllegalArgumentException, IndexOutOfBoundsException {
        checkTransfer(r, at, n);
        for (int i = 0; i < n; i++) {
            int by = i * OCTET_BITS;
            int bits = values[r] >>> by & OCTET_MASK;
            int shadow = shadows[r] >>> by & OCTET_MASK;
            memory[at + i] = shadow << OCTET_BITS | bits;
        }
    }

    public void load(int r, int at, int n, boolean sign) throws IllegalArgumentException, IndexOutOfBoundsException {
        checkTransfer(r, at, n);
        int value = 0;
        int shadow = 0;
        for (int i = 0; i < n; i++) {
            int by = i * OCTET_BITS;
            value |= (memory[at + i] & OCTET_MASK) << by;
            shadow |= (memory[at + i] >>> OCTET_BITS) << by;
        }
        values[r] = widened(value, n, sign);
        shadows[r] = widened(shadow, n, sign);
    }

    public int value(int r) throws IndexOutOfBoundsException {
        checkRegister(r);
        return values[r];
    }

    public int not(int r) throws IndexOutOfBoundsException {
        checkRegister(r);
        return shadows[r];
    }

    public int least(int r) throws IndexOutOfBoundsException {
        checkRegister(r);
        return lowEnd(values[r], shadows[r]);
    }

    public int greatest(int r) throws IndexOutOfBoundsException {
        checkRegister(r);
        return highEnd(values[r], shadows[r]);
    }

    public int octet(int at) throws IndexOutOfBoundsException {
        if (at < 0 || at >= OCTETS) {
            throw new IndexOutOfBoundsException();
        }
        return memory[at];
    }

    public int count() {
        int bits = 0;
        for (int r = 0; r < REGISTERS; r++) {
            bits += Integer.bitCount(shadows[r]);
        }
        return bits;
    }

    private static void checkRegister(int r) {
        if (r < 0 || r >= REGISTERS) {
            throw new IndexOutOfBoundsException();
        }
    }

    private static void checkTransfer(int r, int at, int n) {
        if (n != 1 && n != 2 && n != 4) {
            throw new IllegalArgumentException();
        }
        // at + n could wrap around for a great at; OCTETS - n can't.
        if (at < 0 || at > OCTETS - n) {
            throw new IndexOutOfBoundsException();
        }
        checkRegister(r);
    }

    private int valueOf(int op, int d, int a, int b) {
        int x = values[a];
        int y = values[b];
        switch (op) {
            case ADD:
                return x + y;
            case SUBTRACT:
                return x - y;
            case AND:
                return x & y;
            case OR:
                return x | y;
            case EXCLUSIVE_OR:
                return x ^ y;
            case LEFT:
            case RIGHT_WITHOUT_SIGN:
            case RIGHT_WITH_SIGN:
                return shifted(op, x, y & SHIFT_MASK);
            case MULTIPLY:
                return x * y;
            case BELOW_WITH_SIGN:
                return bit(x < y);
            case BELOW_WITHOUT_SIGN:
                return bit(signTurned(x) < signTurned(y));
            case SAME:
                return bit(x == y);
            default:
                return chosen(b) ? x : values[d];
        }
    }

    private int shadowOf(int op, int d, int a, int b) {
        int x = values[a];
        int y = values[b];
        int notX = shadows[a];
        int notY = shadows[b];
        switch (op) {
            case ADD:
            case SUBTRACT:
                return fromPlaceOn(Integer.numberOfTrailingZeros(notX | notY));
            case AND:
                return (notX | notY) & (notX | x) & (notY | y);
            case OR:
                return (notX | notY) & (notX | ~x) & (notY | ~y);
            case EXCLUSIVE_OR:
                return notX | notY;
            case LEFT:
            case RIGHT_WITHOUT_SIGN:
            case RIGHT_WITH_SIGN:
                return (notY & SHIFT_MASK) != 0 ? ALL : shifted(op, notX, y & SHIFT_MASK);
            case MULTIPLY:
                return fromPlaceOn(Math.min(placeLostBy(notX, y, notY), placeLostBy(notY, x, notX)));
            case BELOW_WITH_SIGN:
                return bit(orderHangs(x, notX, y, notY));
            case BELOW_WITHOUT_SIGN:
                return bit(orderHangs(signTurned(x), notX, signTurned(y), notY));
            case SAME:
                return bit(samenessHangs(x, y, notX | notY));
            default:
                return choiceShadow(d, a, b);
        }
    }

    private boolean chosen(int b) {
        return (values[b] & 1) != 0;
    }

    private int choiceShadow(int d, int a, int b) {
        if ((shadows[b] & 1) != 0) {
            return shadows[a] | shadows[d] | (values[a] ^ values[d]);
        }
        return chosen(b) ? shadows[a] : shadows[d];
    }

    /** Serves values and shadows alike: a bit's shadow goes where the bit goes, the sign's too. */
    private static int shifted(int op, int bits, int by) {
        switch (op) {
            case LEFT:
                return bits << by;
            case RIGHT_WITHOUT_SIGN:
                return bits >>> by;
            default:
                return bits >> by;
        }
    }

    /** Serves values and shadows alike: with sign, a shadow on the highest bit falls on all above it. */
    private static int widened(int bits, int n, boolean sign) {
        int by = WORD_BITS - n * OCTET_BITS;
        return sign ? bits << by >> by : bits << by >>> by;
    }

    /** A place may lie above the word; Java would take a shift by it modulo 32. */
    private static int fromPlaceOn(int place) {
        return place >= WORD_BITS ? 0 : ALL << place;
    }

    /** The lowest place of a product that a factor's shadow reaches; 32 or more if none. */
    private static int placeLostBy(int shadow, int other, int notOther) {
        return Integer.numberOfTrailingZeros(shadow) + Integer.numberOfTrailingZeros(other | notOther);
    }

    /** With the sign bit turned over, the order with sign is the order without. */
    private static int signTurned(int bits) {
        return bits ^ SIGN;
    }

    private static boolean orderHangs(int x, int notX, int y, int notY) {
        boolean canBeBelow = lowEnd(x, notX) < highEnd(y, notY);
        boolean canBeNotBelow = highEnd(x, notX) >= lowEnd(y, notY);
        return canBeBelow && canBeNotBelow;
    }

    private static boolean samenessHangs(int x, int y, int notBoth) {
        // A difference in bits that are GIVEN settles it, whatever the others are.
        return notBoth != 0 && ((x ^ y) & ~notBoth) == 0;
    }

    /** The sign bit weighs the other way: it is 1 in the least. */
    private static int lowEnd(int value, int shadow) {
        return (value & ~shadow) | (shadow & SIGN);
    }

    private static int highEnd(int value, int shadow) {
        return (value & ~shadow) | (shadow & ~SIGN);
    }

    private static int bit(boolean is) {
        return is ? 1 : 0;
    }
}

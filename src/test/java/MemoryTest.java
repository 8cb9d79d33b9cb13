/** Promises 4, 5 and 10: store, load and octet. */
public final class MemoryTest {
    private static final int MIN = Integer.MIN_VALUE;
    private static final int MAX = Integer.MAX_VALUE;
    private static final int[] NO_SIZES = {0, 3, 5, 8, -1, -2, -4, 256, MIN, MAX};
    private static final int[] SIZES = {1, 2, 4};

    public static void main(String[] args) {
        storeIsLowestFirst();
        storeTakesOnlyItsOctets();
        storeGivesAgain();
        loadIsLowestFirst();
        loadWithSign();
        loadWithoutSign();
        loadReplacesAll();
        loadLeavesMemory();
        lastOctetsAreThere();
        octetTellsBothHalves();
        wrongOctetsThrow();
        wrongTransfersThrowAndChangeNothing();
        firstNamedIsThrown();
        Check.end();
    }

    private static void storeIsLowestFirst() {
        ShadowMath x = new ShadowMath();
        x.set(2, 0x81C3A5F0, 0x40302010);
        x.store(2, 10, 4);
        Check.due("octet 10", x.octet(10), 0x10F0);
        Check.due("octet 11", x.octet(11), 0x20A5);
        Check.due("octet 12", x.octet(12), 0x30C3);
        Check.due("octet 13", x.octet(13), 0x4081);
        Check.due("value after store", x.value(2), 0x81C3A5F0);
        Check.due("not after store", x.not(2), 0x40302010);
    }

    private static void storeTakesOnlyItsOctets() {
        for (int n : SIZES) {
            ShadowMath x = new ShadowMath();
            x.set(0, -1, -1);
            x.store(0, 100, n);
            for (int at = 0; at < 256; at++) {
                boolean in = at >= 100 && at < 100 + n;
                Check.due("octet " + at + " after store of " + n, x.octet(at), in ? 0xFFFF : 0);
            }
        }
    }

    private static void storeGivesAgain() {
        ShadowMath x = new ShadowMath();
        x.set(0, -1, -1);
        x.store(0, 0, 4);
        x.set(0, 0x1234, 0);
        x.store(0, 1, 2);
        Check.due("octet 0", x.octet(0), 0xFFFF);
        Check.due("octet 1", x.octet(1), 0x34);
        Check.due("octet 2", x.octet(2), 0x12);
        Check.due("octet 3", x.octet(3), 0xFFFF);
    }

    private static void loadIsLowestFirst() {
        ShadowMath x = new ShadowMath();
        x.set(1, 0x01020304, 0x10203040);
        x.store(1, 50, 4);
        loads(x, 50, 4, true, 0x01020304, 0x10203040);
        loads(x, 50, 4, false, 0x01020304, 0x10203040);
        loads(x, 51, 2, true, 0x0203, 0x2030);
        loads(x, 53, 1, false, 0x01, 0x10);
        loads(x, 52, 4, false, 0x0102, 0x1020);
        loads(x, 49, 4, true, 0x02030400, 0x20304000);
    }

    private static void loadWithSign() {
        ShadowMath x = new ShadowMath();
        x.set(1, 0x80FF7F80, 0x00800080);
        x.store(1, 0, 4);
        loads(x, 0, 1, true, 0xFFFFFF80, 0xFFFFFF80);
        loads(x, 1, 1, true, 0x7F, 0);
        loads(x, 2, 1, true, 0xFFFFFFFF, 0xFFFFFF80);
        loads(x, 3, 1, true, 0xFFFFFF80, 0);
        loads(x, 0, 2, true, 0x7F80, 0x0080);
        loads(x, 1, 2, true, 0xFFFFFF7F, 0xFFFF8000);
        loads(x, 0, 4, true, 0x80FF7F80, 0x00800080);
        // A sign that stands as 0 but is not GIVEN leaves zeros that are not GIVEN.
        x.set(1, 0x0001, 0x8000);
        x.store(1, 0, 2);
        loads(x, 0, 2, true, 1, 0xFFFF8000);
        x.set(1, 0, MIN);
        x.store(1, 0, 4);
        loads(x, 0, 4, true, 0, MIN);
    }

    private static void loadWithoutSign() {
        ShadowMath x = new ShadowMath();
        x.set(1, 0x80FF7F80, 0x00800080);
        x.store(1, 0, 4);
        loads(x, 0, 1, false, 0x80, 0x80);
        loads(x, 2, 1, false, 0xFF, 0x80);
        loads(x, 1, 2, false, 0xFF7F, 0x8000);
        loads(x, 0, 4, false, 0x80FF7F80, 0x00800080);
    }

    private static void loadReplacesAll() {
        ShadowMath x = new ShadowMath();
        for (int n : SIZES) {
            x.set(4, -1, -1);
            x.load(4, 8, n, true);
            Check.due("value of zeros loaded", x.value(4), 0);
            Check.due("not of zeros loaded", x.not(4), 0);
        }
    }

    private static void loads(ShadowMath x, int at, int n, boolean sign, int value, int not) {
        x.load(7, at, n, sign);
        String what = " after load " + at + " " + n + " " + sign;
        Check.due("value" + what, x.value(7), value);
        Check.due("not" + what, x.not(7), not);
    }

    private static void loadLeavesMemory() {
        ShadowMath x = allSet();
        ShadowMath y = allSet();
        for (int n : SIZES) {
            x.load(7, 252, n, true);
            x.load(7, 20, n, false);
        }
        y.set(7, x.value(7), x.not(7));
        Check.dueState("after loads", x, Check.state(y));
    }

    private static void lastOctetsAreThere() {
        for (int n : SIZES) {
            ShadowMath x = new ShadowMath();
            x.set(15, 0x01010101, 0x02020202);
            x.store(15, 256 - n, n);
            x.store(15, 0, n);
            Check.due("octet 255 after store of " + n, x.octet(255), 0x201);
            Check.due("octet 0 after store of " + n, x.octet(0), 0x201);
            x.load(0, 256 - n, n, true);
            Check.due("value of the last " + n, x.value(0), 0x01010101 >>> 32 - 8 * n);
            Check.due("not of the last " + n, x.not(0), 0x02020202 >>> 32 - 8 * n);
        }
    }

    private static void octetTellsBothHalves() {
        for (int bits = 0; bits < 256; bits++) {
            ShadowMath x = new ShadowMath();
            x.set(0, bits, 255 - bits);
            x.store(0, bits, 1);
            Check.due("octet of " + bits, x.octet(bits), bits + 256 * (255 - bits));
        }
    }

    private static void wrongOctetsThrow() {
        ShadowMath x = new ShadowMath();
        for (int at : new int[] {-1, 256, 257, MIN, MAX}) {
            Check.badIndex("octet " + at, () -> x.octet(at));
        }
    }

    private static void wrongTransfersThrowAndChangeNothing() {
        ShadowMath x = allSet();
        for (int n : NO_SIZES) {
            Check.badArgument("store of " + n, () -> x.store(15, 0, n));
            Check.badArgument("load of " + n, () -> x.load(15, 0, n, true));
        }
        for (int n : SIZES) {
            for (int at : new int[] {-1, -n, -256, 256 - n + 1, 256, 257, MIN, MAX, MAX - n + 1, MAX - n}) {
                Check.badIndex("store at " + at + " of " + n, () -> x.store(15, at, n));
                Check.badIndex("load at " + at + " of " + n, () -> x.load(15, at, n, false));
            }
            for (int r : new int[] {-1, 16, MIN, MAX}) {
                Check.badIndex("store of register " + r, () -> x.store(r, 0, n));
                Check.badIndex("load of register " + r, () -> x.load(r, 0, n, true));
            }
        }
        Check.dueState("after wrong transfers", x, Check.state(allSet()));
    }

    private static ShadowMath allSet() {
        ShadowMath x = new ShadowMath();
        for (int r = 0; r < 16; r++) {
            x.set(r, 0x01020304 * r, r);
        }
        for (int at = 0; at < 256; at += 4) {
            x.store(at / 16, at, 4);
        }
        x.set(15, -7, -1);
        return x;
    }

    private static void firstNamedIsThrown() {
        ShadowMath x = new ShadowMath();
        Check.badArgument("store with all wrong", () -> x.store(16, 256, 3));
        Check.badArgument("load with all wrong", () -> x.load(-1, -1, 0, true));
        Check.badArgument("store of n at none", () -> x.store(0, 256, 0));
        Check.badArgument("load of n to none", () -> x.load(16, 0, 5, false));
    }
}

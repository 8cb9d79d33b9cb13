/** Promises 1, 2, 6, 7, 8, 9 and 11: a new object, set, and what is told of registers. */
public final class RegistersTest {
    private static final int MIN = Integer.MIN_VALUE;
    private static final int MAX = Integer.MAX_VALUE;
    private static final int[] NO_REGISTERS = {-1, 16, 17, 255, MIN, MAX};

    public static void main(String[] args) {
        newObjectIsZeroAndGiven();
        setKeepsValueAndShadow();
        setTouchesOneRegister();
        setAgainGivesBitsAgain();
        endsOfWhatItCanBe();
        countIsOverAllRegisters();
        wrongRegistersThrowAndChangeNothing();
        objectsAreApart();
        Check.end();
    }

    private static void newObjectIsZeroAndGiven() {
        ShadowMath x = new ShadowMath();
        for (int r = 0; r < 16; r++) {
            Check.due("new value " + r, x.value(r), 0);
            Check.due("new not " + r, x.not(r), 0);
            Check.due("new least " + r, x.least(r), 0);
            Check.due("new greatest " + r, x.greatest(r), 0);
        }
        for (int at = 0; at < 256; at++) {
            Check.due("new octet " + at, x.octet(at), 0);
        }
        Check.due("new count", x.count(), 0);
    }

    private static void setKeepsValueAndShadow() {
        int[][] pairs = {{0, 0}, {12, 4}, {-1, -1}, {0, -1}, {-1, 0}, {MIN, MAX}, {MAX, MIN}, {0x12345678, 0x0F0F00FF}};
        for (int[] pair : pairs) {
            for (int r = 0; r < 16; r++) {
                ShadowMath x = new ShadowMath();
                x.set(r, pair[0], pair[1]);
                // A bit that is not GIVEN still counts in the value as it stands.
                Check.due("value after set", x.value(r), pair[0]);
                Check.due("not after set", x.not(r), pair[1]);
            }
        }
    }

    private static void setTouchesOneRegister() {
        ShadowMath x = new ShadowMath();
        for (int r = 0; r < 16; r++) {
            x.set(r, 1000 + r, 1 << r);
        }
        for (int r = 0; r < 16; r++) {
            Check.due("value of own " + r, x.value(r), 1000 + r);
            Check.due("not of own " + r, x.not(r), 1 << r);
        }
        for (int at = 0; at < 256; at++) {
            Check.due("octet after set " + at, x.octet(at), 0);
        }
    }

    private static void setAgainGivesBitsAgain() {
        ShadowMath x = new ShadowMath();
        x.set(3, 7, -1);
        x.set(3, 8, 2);
        Check.due("value set twice", x.value(3), 8);
        Check.due("not set twice", x.not(3), 2);
        Check.due("count set twice", x.count(), 1);
    }

    private static void endsOfWhatItCanBe() {
        ends(12, 4, 8, 12);
        ends(8, 4, 8, 12);
        ends(-1, MIN, -1, MAX);
        ends(MAX, MIN, -1, MAX);
        ends(0, MIN, MIN, 0);
        ends(0, -1, MIN, MAX);
        ends(-1, -1, MIN, MAX);
        ends(MIN, MAX, MIN, -1);
        ends(0, MAX, 0, MAX);
        ends(-1, 1, -2, -1);
        ends(-2, 1, -2, -1);
        ends(-100, 0, -100, -100);
        ends(5, MIN | 2, MIN | 5, 7);
    }

    private static void ends(int v, int not, int least, int greatest) {
        ShadowMath x = new ShadowMath();
        x.set(9, v, not);
        Check.due("least of " + v + "/" + not, x.least(9), least);
        Check.due("greatest of " + v + "/" + not, x.greatest(9), greatest);
        Check.due("value after ends", x.value(9), v);
        Check.due("not after ends", x.not(9), not);
    }

    private static void countIsOverAllRegisters() {
        ShadowMath x = new ShadowMath();
        for (int r = 0; r < 16; r++) {
            x.set(r, 0, -1);
            Check.due("count of full registers", x.count(), 32 * (r + 1));
        }
        x.set(0, 0, MIN);
        Check.due("count after set of 0", x.count(), 15 * 32 + 1);
        x.set(15, -1, 0);
        Check.due("count after set of 15", x.count(), 14 * 32 + 1);
        x.store(1, 0, 4);
        Check.due("count leaves memory out", x.count(), 14 * 32 + 1);
    }

    private static void wrongRegistersThrowAndChangeNothing() {
        ShadowMath x = twoSet();
        for (int r : NO_REGISTERS) {
            Check.badIndex("set " + r, () -> x.set(r, 1, 1));
            Check.badIndex("value " + r, () -> x.value(r));
            Check.badIndex("not " + r, () -> x.not(r));
            Check.badIndex("least " + r, () -> x.least(r));
            Check.badIndex("greatest " + r, () -> x.greatest(r));
        }
        Check.dueState("after calls on no register", x, Check.state(twoSet()));
    }

    private static ShadowMath twoSet() {
        ShadowMath x = new ShadowMath();
        x.set(0, 11, 1);
        x.set(15, 12, 2);
        return x;
    }

    private static void objectsAreApart() {
        ShadowMath x = new ShadowMath();
        ShadowMath y = new ShadowMath();
        x.set(1, 5, 3);
        x.store(1, 7, 1);
        Check.due("value of another object", y.value(1), 0);
        Check.due("count of another object", y.count(), 0);
        Check.due("octet of another object", y.octet(7), 0);
    }
}

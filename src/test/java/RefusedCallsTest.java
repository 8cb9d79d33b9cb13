/**
 * Promises 1 to 10, the calls that are refused: an argument too small and one too large for each
 * call that can refuse it, which of several exceptions is thrown, and that nothing changes. Each
 * refused call has an object of its own, whose whole state is looked at afterwards; beside it
 * stands the nearest argument that is not refused.
 */
public final class RefusedCallsTest {
    private static final int MIN = Integer.MIN_VALUE;
    private static final int MAX = Integer.MAX_VALUE;

    private static final int[] NO_REGISTERS = {MIN, -16, -1, 16, 17, 256, MAX};
    private static final int[] END_REGISTERS = {0, 15};
    private static final int[] NO_OCTETS = {MIN, -256, -1, 256, 257, MAX};
    private static final int[] NO_OPS = {MIN, -13, -1, 13, 14, 16, MAX};
    private static final int[] NO_SIZES = {MIN, -4, -2, -1, 0, 3, 5, 6, 7, 8, 16, 32, 257, 258, 260, MAX};
    private static final int[] SIZES = {1, 2, 4};

    private static final String UNCHANGED = Check.state(Check.full());

    /** A call on an object. */
    private interface Deed {
        void on(ShadowMath x);
    }

    public static void main(String[] args) {
        setRefusesWhatIsNoRegister();
        valueRefusesWhatIsNoRegister();
        notRefusesWhatIsNoRegister();
        leastRefusesWhatIsNoRegister();
        greatestRefusesWhatIsNoRegister();
        octetRefusesWhatIsNoOctet();
        opRefusesWhatIsNoOp();
        opRefusesATargetThatIsNone();
        opRefusesAFirstThatIsNone();
        opRefusesASecondThatIsNone();
        opNamesTheOpFirst();
        storeRefusesSizes();
        storeRefusesOctets();
        storeRefusesWhatIsNoRegister();
        storeNamesTheSizeFirst();
        loadRefusesSizes();
        loadRefusesOctets();
        loadRefusesWhatIsNoRegister();
        loadNamesTheSizeFirst();
        refusedCallsInARowChangeNothing();
        newObjectStaysNewWhenItRefuses();
        Check.end();
    }

    private static void index(String what, Deed deed) {
        ShadowMath x = Check.full();
        Check.badIndex(what, () -> deed.on(x));
        Check.dueState("after " + what, x, UNCHANGED);
    }

    private static void argument(String what, Deed deed) {
        ShadowMath x = Check.full();
        Check.badArgument(what, () -> deed.on(x));
        Check.dueState("after " + what, x, UNCHANGED);
    }

    private static void allowed(String what, Deed deed) {
        ShadowMath x = Check.full();
        Check.nothing(what, () -> deed.on(x));
    }

    // Promise 2: "IndexOutOfBoundsException: there is none."
    private static void setRefusesWhatIsNoRegister() {
        for (int r : NO_REGISTERS) {
            index("set of " + r, x -> x.set(r, 5, 3));
            index("set of " + r + " to 0", x -> x.set(r, 0, 0));
        }
        for (int r : END_REGISTERS) {
            allowed("set of " + r, x -> x.set(r, MIN, -1));
        }
    }

    // Promise 6: "IndexOutOfBoundsException: there is none (here and below)."
    private static void valueRefusesWhatIsNoRegister() {
        for (int r : NO_REGISTERS) {
            index("value of " + r, x -> x.value(r));
        }
        Check.due("value of 0", Check.full().value(0), 0x87654321);
        Check.due("value of 15", Check.full().value(15), 0x87654330);
    }

    // Promise 7, "here and below" of promise 6.
    private static void notRefusesWhatIsNoRegister() {
        for (int r : NO_REGISTERS) {
            index("not of " + r, x -> x.not(r));
        }
        Check.due("not of 0", Check.full().not(0), 0x10F00F00);
        Check.due("not of 15", Check.full().not(15), 0x10F00F1E);
    }

    // Promise 8, "here and below" of promise 6.
    private static void leastRefusesWhatIsNoRegister() {
        for (int r : NO_REGISTERS) {
            index("least of " + r, x -> x.least(r));
        }
        Check.due("least of 0", Check.full().least(0), 0x87054021);
        Check.due("least of 15", Check.full().least(15), 0x87054020);
    }

    // Promise 9, "here and below" of promise 6.
    private static void greatestRefusesWhatIsNoRegister() {
        for (int r : NO_REGISTERS) {
            index("greatest of " + r, x -> x.greatest(r));
        }
        Check.due("greatest of 0", Check.full().greatest(0), 0x97F54F21);
        Check.due("greatest of 15", Check.full().greatest(15), 0x97F54F3E);
    }

    // Promise 10: "IndexOutOfBoundsException: there is none."
    private static void octetRefusesWhatIsNoOctet() {
        for (int at : NO_OCTETS) {
            index("octet " + at, x -> x.octet(at));
        }
        Check.due("octet 0", Check.full().octet(0), 0xFF00);
        Check.due("octet 255", Check.full().octet(255), 0x00FF);
    }

    // Promise 3: "IllegalArgumentException: op is not 0..12."
    private static void opRefusesWhatIsNoOp() {
        for (int op : NO_OPS) {
            argument("op " + op, x -> x.op(op, 1, 2, 3));
        }
        for (int op = 0; op <= 12; op++) {
            int known = op;
            allowed("op " + op, x -> x.op(known, 1, 2, 3));
        }
    }

    // Promise 3: "IndexOutOfBoundsException: there is none." It is said of d, of a and of b.
    private static void opRefusesATargetThatIsNone() {
        for (int op = 0; op <= 12; op++) {
            int known = op;
            for (int r : NO_REGISTERS) {
                index("op " + op + " to " + r, x -> x.op(known, r, 2, 3));
            }
            for (int r : END_REGISTERS) {
                allowed("op " + op + " to " + r, x -> x.op(known, r, 2, 3));
            }
        }
    }

    private static void opRefusesAFirstThatIsNone() {
        for (int op = 0; op <= 12; op++) {
            int known = op;
            for (int r : NO_REGISTERS) {
                // Register 3 has an even value and register 2 an odd one: a choice needs a or it does not.
                index("op " + op + " of " + r + " and 3", x -> x.op(known, 1, r, 3));
                index("op " + op + " of " + r + " and 2", x -> x.op(known, 1, r, 2));
            }
            for (int r : END_REGISTERS) {
                allowed("op " + op + " of " + r + " and 3", x -> x.op(known, 1, r, 3));
            }
        }
    }

    private static void opRefusesASecondThatIsNone() {
        for (int op = 0; op <= 12; op++) {
            int known = op;
            for (int r : NO_REGISTERS) {
                index("op " + op + " of 2 and " + r, x -> x.op(known, 1, 2, r));
            }
            for (int r : END_REGISTERS) {
                allowed("op " + op + " of 2 and " + r, x -> x.op(known, 1, 2, r));
            }
        }
    }

    // Promise 1: "Of several exceptions the one named first is thrown"; promise 3 names the op first.
    private static void opNamesTheOpFirst() {
        for (int op : new int[] {-1, 13}) {
            for (int r : new int[] {-1, 16}) {
                argument("op " + op + " to " + r, x -> x.op(op, r, 2, 3));
                argument("op " + op + " of " + r + " and 3", x -> x.op(op, 1, r, 3));
                argument("op " + op + " of 2 and " + r, x -> x.op(op, 1, 2, r));
                argument("op " + op + " all " + r, x -> x.op(op, r, r, r));
            }
        }
    }

    // Promise 4: "(1, 2, 4)" and "IllegalArgumentException: n."
    private static void storeRefusesSizes() {
        for (int n : NO_SIZES) {
            argument("store of size " + n, x -> x.store(4, 10, n));
        }
        for (int n : SIZES) {
            allowed("store of size " + n, x -> x.store(4, 10, n));
        }
    }

    // Promise 4: "IndexOutOfBoundsException: there are no such octets". Some of them may be there.
    private static void storeRefusesOctets() {
        for (int n : SIZES) {
            for (int at : NO_OCTETS) {
                index("store at " + at + " of size " + n, x -> x.store(4, at, n));
            }
            for (int over = 1; over <= n; over++) {
                int low = -over;
                int high = 256 - n + over;
                // For a great at, at + n wraps around and lies below 256.
                int wraps = MAX - n + over;
                index("store at " + low + " of size " + n, x -> x.store(4, low, n));
                index("store at " + high + " of size " + n, x -> x.store(4, high, n));
                index("store at " + wraps + " of size " + n, x -> x.store(4, wraps, n));
            }
            allowed("store at 0 of size " + n, x -> x.store(4, 0, n));
            allowed("store at the end of size " + n, x -> x.store(4, 256 - n, n));
        }
    }

    // Promise 4: "or REGISTER."
    private static void storeRefusesWhatIsNoRegister() {
        for (int n : SIZES) {
            for (int r : NO_REGISTERS) {
                index("store of register " + r + ", size " + n, x -> x.store(r, 10, n));
            }
            for (int r : END_REGISTERS) {
                allowed("store of register " + r + ", size " + n, x -> x.store(r, 10, n));
            }
        }
        index("store of no register to no octet", x -> x.store(16, 256, 1));
    }

    // Promise 1 on several exceptions; promise 4 names n first.
    private static void storeNamesTheSizeFirst() {
        for (int n : new int[] {-1, 0, 3, 5}) {
            argument("store of size " + n + " and register -1", x -> x.store(-1, 10, n));
            argument("store of size " + n + " and register 16", x -> x.store(16, 10, n));
            argument("store of size " + n + " at -1", x -> x.store(4, -1, n));
            argument("store of size " + n + " at 256", x -> x.store(4, 256, n));
            argument("store of size " + n + ", all wrong", x -> x.store(16, 256, n));
        }
    }

    // Promise 5: "(1, 2, 4)" and "Likewise."
    private static void loadRefusesSizes() {
        for (int n : NO_SIZES) {
            argument("load of size " + n + " with sign", x -> x.load(4, 10, n, true));
            argument("load of size " + n, x -> x.load(4, 10, n, false));
        }
        for (int n : SIZES) {
            allowed("load of size " + n + " with sign", x -> x.load(4, 10, n, true));
            allowed("load of size " + n, x -> x.load(4, 10, n, false));
        }
    }

    private static void loadRefusesOctets() {
        for (int n : SIZES) {
            for (int at : NO_OCTETS) {
                index("load at " + at + " of size " + n, x -> x.load(4, at, n, true));
            }
            for (int over = 1; over <= n; over++) {
                int low = -over;
                int high = 256 - n + over;
                int wraps = MAX - n + over;
                index("load at " + low + " of size " + n, x -> x.load(4, low, n, false));
                index("load at " + high + " of size " + n, x -> x.load(4, high, n, false));
                index("load at " + wraps + " of size " + n, x -> x.load(4, wraps, n, false));
            }
            allowed("load at 0 of size " + n, x -> x.load(4, 0, n, true));
            allowed("load at the end of size " + n, x -> x.load(4, 256 - n, n, true));
        }
    }

    private static void loadRefusesWhatIsNoRegister() {
        for (int n : SIZES) {
            for (int r : NO_REGISTERS) {
                index("load to register " + r + ", size " + n, x -> x.load(r, 10, n, true));
            }
            for (int r : END_REGISTERS) {
                allowed("load to register " + r + ", size " + n, x -> x.load(r, 10, n, true));
            }
        }
        index("load of no octet to no register", x -> x.load(-1, -1, 4, false));
    }

    private static void loadNamesTheSizeFirst() {
        for (int n : new int[] {-1, 0, 3, 5}) {
            argument("load of size " + n + " and register -1", x -> x.load(-1, 10, n, true));
            argument("load of size " + n + " and register 16", x -> x.load(16, 10, n, false));
            argument("load of size " + n + " at -1", x -> x.load(4, -1, n, false));
            argument("load of size " + n + " at 256", x -> x.load(4, 256, n, true));
            argument("load of size " + n + ", all wrong", x -> x.load(-1, -1, n, true));
        }
    }

    // Promise 1: "a call that throws changes nothing", not even how the next ones are answered.
    private static void refusedCallsInARowChangeNothing() {
        ShadowMath x = Check.full();
        for (int i = 0; i < 4; i++) {
            Check.badIndex("set in a row", () -> x.set(16, 1, 1));
            Check.badArgument("op in a row", () -> x.op(13, 0, 1, 2));
            Check.badIndex("op of none in a row", () -> x.op(0, 0, 1, 16));
            Check.badArgument("store in a row", () -> x.store(0, 0, 3));
            Check.badIndex("store over the end in a row", () -> x.store(0, 253, 4));
            Check.badArgument("load in a row", () -> x.load(0, 0, 0, true));
            Check.badIndex("load over the end in a row", () -> x.load(0, 255, 2, true));
            Check.badIndex("octet in a row", () -> x.octet(256));
            Check.badIndex("value in a row", () -> x.value(-1));
        }
        Check.dueState("after refused calls in a row", x, UNCHANGED);
    }

    private static void newObjectStaysNewWhenItRefuses() {
        ShadowMath x = new ShadowMath();
        Check.badIndex("set on a new object", () -> x.set(-1, -1, -1));
        Check.badArgument("op on a new object", () -> x.op(-1, 0, 0, 0));
        Check.badIndex("op to none on a new object", () -> x.op(11, -1, 0, 0));
        Check.badIndex("store on a new object", () -> x.store(0, -1, 1));
        Check.badIndex("load on a new object", () -> x.load(0, 256, 1, false));
        Check.dueState("of a new object that refused", x, Check.state(new ShadowMath()));
    }
}

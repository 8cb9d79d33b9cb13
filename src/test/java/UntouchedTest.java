import java.util.Random;

/**
 * Promises 2 to 11: each of them says what a call changes, and "Not promised" that nothing comes
 * beyond it. After one call on a full object its whole state is looked at, every register and
 * octet that the call does not name too.
 */
public final class UntouchedTest {
    private static final int REGISTERS = 16;
    private static final int OCTETS = 256;
    private static final int[] SIZES = {1, 2, 4};

    /** Check.state has the registers first, then the octets, then the count. */
    private static final String[] BEFORE = Check.state(Check.full()).split(" ");

    /** A call on an object. */
    private interface Deed {
        void on(ShadowMath x);
    }

    public static void main(String[] args) {
        callsFitIntoAnObject();
        setChangesOneRegister();
        opChangesOneRegister();
        storeChangesItsOctets();
        loadChangesOneRegister();
        answersChangeNothing();
        sameCallsAnswerTheSame();
        Check.end();
    }

    /** Else what this test sees would be free: an object is good for 512 calls. */
    private static void callsFitIntoAnObject() {
        int calls = Check.FULL_CALLS + 1 + Check.STATE_CALLS;
        Check.due("calls on one object are too many", calls > 512 ? 1 : 0, 0);
    }

    /** The state after a call, of which only the places from first on, n of them, may be new. */
    private static String[] after(String what, Deed deed, int first, int n) {
        ShadowMath x = Check.full();
        deed.on(x);
        String[] state = Check.state(x).split(" ");
        Check.due("size of the state after " + what, state.length, REGISTERS + OCTETS + 1);
        for (int i = 0; i < REGISTERS + OCTETS; i++) {
            boolean named = i >= first && i < first + n;
            if (!named) {
                Check.due("place " + i + " stays after " + what, state[i].equals(BEFORE[i]) ? 1 : 0, 1);
            }
        }
        Check.due("count after " + what, Integer.parseInt(state[REGISTERS + OCTETS]), bitsNotGiven(state));
        return state;
    }

    private static int bitsNotGiven(String[] state) {
        int bits = 0;
        for (int r = 0; r < REGISTERS; r++) {
            bits += Integer.bitCount(Integer.parseInt(state[r].substring(state[r].indexOf('/') + 1)));
        }
        return bits;
    }

    private static void due(String what, String got, String want) {
        Check.due(what + " is " + got + " and not " + want, got.equals(want) ? 0 : 1, 0);
    }

    // Promise 2: "A REGISTER has v"
    private static void setChangesOneRegister() {
        for (int r = 0; r < REGISTERS; r++) {
            int set = r;
            String what = "set of " + r;
            due(what, after(what, x -> x.set(set, -9, 77), r, 1)[r], "-9/77");
        }
    }

    // Promise 3: "An OP of REGISTERS a and b, as they were, to d"
    private static void opChangesOneRegister() {
        for (int op = 0; op <= 12; op++) {
            for (int d = 0; d < REGISTERS; d++) {
                int known = op;
                int to = d;
                after("op " + op + " to " + d, x -> x.op(known, to, 5, 9), d, 1);
                after("op " + op + " of one to " + d, x -> x.op(known, to, 15, 15), d, 1);
            }
        }
    }

    // Promise 4: "The n lowest octets of a REGISTER (1, 2, 4) come to MEMORY from at on"
    private static void storeChangesItsOctets() {
        for (int n : SIZES) {
            for (int at : new int[] {0, 1, 3, 100, 254 - n, 255 - n, 256 - n}) {
                String what = "store at " + at + " of " + n;
                String[] state = after(what, x -> x.store(7, at, n), REGISTERS + at, n);
                // Register 7 of the full object has 0x87654328, of which 0x10F00F0E is not GIVEN.
                int[] octets = {0x0E28, 0x0F43, 0xF065, 0x1087};
                for (int i = 0; i < n; i++) {
                    due(what + ", octet " + i, state[REGISTERS + at + i], Integer.toString(octets[i]));
                }
            }
        }
    }

    // Promise 5: "n octets (1, 2, 4) come to a REGISTER"
    private static void loadChangesOneRegister() {
        // Octets 252 to 255 of the full object have 0xFC, 0xFD, 0xFE, 0xFF; the bits that are 0 are not GIVEN.
        int[] value = {0, 0xFF, 0xFFFE, 0, 0xFFFEFDFC};
        int[] not = {0, 0x00, 0x0001, 0, 0x00010203};
        for (int r = 0; r < REGISTERS; r++) {
            int to = r;
            for (int n : SIZES) {
                String what = "load to " + r + " of " + n;
                String[] state = after(what, x -> x.load(to, 256 - n, n, false), r, 1);
                due(what, state[r], value[n] + "/" + not[n]);
                after(what + " with sign", x -> x.load(to, 256 - n, n, true), r, 1);
            }
        }
    }

    // Promises 6 to 11 tell something; none of them says that something changes.
    private static void answersChangeNothing() {
        for (int r = 0; r < REGISTERS; r++) {
            int of = r;
            after("value of " + r, x -> x.value(of), 0, 0);
            after("not of " + r, x -> x.not(of), 0, 0);
            after("least of " + r, x -> x.least(of), 0, 0);
            after("greatest of " + r, x -> x.greatest(of), 0, 0);
            after("octet " + 17 * r, x -> x.octet(17 * of), 0, 0);
        }
        after("count", x -> x.count(), 0, 0);
    }

    /** Rule 13 of the language; a third object between the two does other things. */
    private static void sameCallsAnswerTheSame() {
        for (int run = 0; run < 50; run++) {
            Random calls = new Random(run);
            ShadowMath x = new ShadowMath();
            ShadowMath between = new ShadowMath();
            ShadowMath y = new ShadowMath();
            for (int i = 0; i < 200; i++) {
                long call = calls.nextLong();
                int got = someCall(x, call);
                someCall(between, ~call);
                Check.due("the same call on another object", someCall(y, call), got);
            }
            Check.dueState("after the same calls", y, Check.state(x));
        }
    }

    /** One call, all of it told by a number; what it answers, or 0. */
    private static int someCall(ShadowMath x, long call) {
        Random random = new Random(call);
        int r = random.nextInt(REGISTERS);
        int n = SIZES[random.nextInt(SIZES.length)];
        int at = random.nextInt(OCTETS - n + 1);
        switch (random.nextInt(10)) {
            case 0: x.set(r, random.nextInt(), random.nextInt() & random.nextInt()); return 0;
            case 1: x.store(r, at, n); return 0;
            case 2: x.load(r, at, n, random.nextBoolean()); return 0;
            case 3: return x.value(r);
            case 4: return x.not(r);
            case 5: return x.least(r);
            case 6: return x.greatest(r);
            case 7: return x.octet(at);
            case 8: return x.count();
            default: x.op(random.nextInt(13), r, random.nextInt(REGISTERS), random.nextInt(REGISTERS)); return 0;
        }
    }
}

/** Counts and prints the answers that are not as due, for all tests of the project. */
final class Check {
    /** A call that may throw. */
    interface Call {
        void run();
    }

    static final int STATE_CALLS = 16 + 16 + 256 + 1;
    static final int FULL_CALLS = 2 * 64 + 16;

    private static int wrong = 0;

    private Check() {
    }

    static void due(String what, long got, long want) {
        if (got != want) {
            wrong++;
            System.out.println(what + " answered " + got + ", due is " + want);
        }
    }

    static void badIndex(String what, Call call) {
        throwsExactly(what, IndexOutOfBoundsException.class, call);
    }

    static void badArgument(String what, Call call) {
        throwsExactly(what, IllegalArgumentException.class, call);
    }

    static void nothing(String what, Call call) {
        throwsExactly(what, null, call);
    }

    private static void throwsExactly(String what, Class<?> want, Call call) {
        Class<?> got = null;
        try {
            call.run();
        } catch (RuntimeException e) {
            got = e.getClass();
        }
        if (got != want) {
            wrong++;
            System.out.println(what + " threw " + got + ", due is " + want);
        }
    }

    /** An object on which hardly a change would go unseen: no register and no octet is as another. */
    static ShadowMath full() {
        ShadowMath x = new ShadowMath();
        for (int at = 0; at < 256; at += 4) {
            int octets = 0x01010101 * at + 0x03020100;
            x.set(0, octets, ~octets);
            x.store(0, at, 4);
        }
        for (int r = 0; r < 16; r++) {
            x.set(r, 0x87654321 + r, 0x10F00F00 + 2 * r);
        }
        return x;
    }

    /**
     * All that the face tells of an object. It takes STATE_CALLS of the 512 calls for which an
     * object is good, so that a test asks it of one object once.
     */
    static String state(ShadowMath x) {
        StringBuilder all = new StringBuilder();
        for (int r = 0; r < 16; r++) {
            all.append(x.value(r)).append('/').append(x.not(r)).append(' ');
        }
        for (int at = 0; at < 256; at++) {
            all.append(x.octet(at)).append(' ');
        }
        return all.append(x.count()).toString();
    }

    static void dueState(String what, ShadowMath x, String want) {
        String got = state(x);
        if (!got.equals(want)) {
            wrong++;
            System.out.println("state " + what + " is " + got + ", due is " + want);
        }
    }

    static void end() {
        System.out.println(wrong == 0 ? "all answers are as due" : wrong + " answers are not as due");
        if (wrong != 0) {
            System.exit(1);
        }
    }
}

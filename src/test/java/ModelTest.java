import java.util.Random;

/**
 * Promises 1 to 11 together: long runs of calls, right and wrong ones, beside a slow model that
 * holds every bit by itself as one of 0, 1, not GIVEN as 0, not GIVEN as 1.
 */
public final class ModelTest {
    private static final int RUNS = 1000;
    private static final int MOST_CALLS_A_STEP = 6;

    /** An object is good for 512 calls, of which the last look at its state takes a part. */
    private static final int CALLS = 512 - Check.STATE_CALLS - MOST_CALLS_A_STEP;

    public static void main(String[] args) {
        for (int run = 0; run < RUNS; run++) {
            new Run(run).go();
        }
        Check.end();
    }

    /** A row of bits, the lowest first. */
    private static final class Bits {
        final boolean[] one;
        final boolean[] given;

        Bits(int n) {
            one = new boolean[n];
            given = new boolean[n];
            for (int i = 0; i < n; i++) {
                given[i] = true;
            }
        }

        static Bits of(int value, int not) {
            Bits x = new Bits(32);
            for (int i = 0; i < 32; i++) {
                x.one[i] = (value >>> i & 1) == 1;
                x.given[i] = (not >>> i & 1) == 0;
            }
            return x;
        }

        void take(int i, Bits from, int j) {
            one[i] = from.one[j];
            given[i] = from.given[j];
        }

        int value() {
            int value = 0;
            for (int i = one.length - 1; i >= 0; i--) {
                value = value * 2 + (one[i] ? 1 : 0);
            }
            return value;
        }

        int not() {
            int not = 0;
            for (int i = one.length - 1; i >= 0; i--) {
                not = not * 2 + (given[i] ? 0 : 1);
            }
            return not;
        }

        int firstNotGiven() {
            for (int i = 0; i < one.length; i++) {
                if (!given[i]) {
                    return i;
                }
            }
            return one.length;
        }

        int lowestGivenZeros() {
            for (int i = 0; i < one.length; i++) {
                if (!given[i] || one[i]) {
                    return i;
                }
            }
            return one.length;
        }

        /** The end of what it can be, as a long, the top bit counting below 0 if signed. */
        long end(boolean high, boolean signed) {
            long sum = 0;
            for (int i = 0; i < 32; i++) {
                long weight = signed && i == 31 ? -(1L << 31) : 1L << i;
                boolean is = given[i] ? one[i] : high == weight > 0;
                sum += is ? weight : 0;
            }
            return sum;
        }
    }

    private static Bits outcome(int op, Bits a, Bits b, Bits d) {
        switch (op) {
            case 0: return lostFrom(a.value() + b.value(), Math.min(a.firstNotGiven(), b.firstNotGiven()));
            case 1: return lostFrom(a.value() - b.value(), Math.min(a.firstNotGiven(), b.firstNotGiven()));
            case 2:
            case 3:
            case 4: return bitwise(op, a, b);
            case 5:
            case 6:
            case 7: return shift(op, a, b);
            case 8: return product(a, b);
            case 9: return below(a, b, true);
            case 10: return below(a, b, false);
            case 11: return same(a, b);
            default: return choice(a, b, d);
        }
    }

    private static Bits lostFrom(int value, int place) {
        Bits x = Bits.of(value, 0);
        for (int i = place; i < 32; i++) {
            x.given[i] = false;
        }
        return x;
    }

    private static Bits bitwise(int op, Bits a, Bits b) {
        Bits x = new Bits(32);
        for (int i = 0; i < 32; i++) {
            boolean both = a.one[i] && b.one[i];
            boolean some = a.one[i] || b.one[i];
            x.one[i] = op == 2 ? both : op == 3 ? some : some && !both;
            x.given[i] = a.given[i] && b.given[i];
            if (op != 4) {
                boolean settles = op == 3;
                if (a.given[i] && a.one[i] == settles || b.given[i] && b.one[i] == settles) {
                    x.given[i] = true;
                }
            }
        }
        return x;
    }

    private static Bits shift(int op, Bits a, Bits b) {
        int by = Math.floorMod(b.value(), 32);
        Bits x = new Bits(32);
        for (int i = 0; i < 32; i++) {
            int from = op == 5 ? i - by : i + by;
            if (from >= 0 && from < 32) {
                x.take(i, a, from);
            } else if (op == 7) {
                x.take(i, a, 31);
            }
        }
        return b.firstNotGiven() < 5 ? lostFrom(x.value(), 0) : x;
    }

    private static Bits product(Bits a, Bits b) {
        int place = 32;
        if (a.firstNotGiven() < 32) {
            place = Math.min(place, a.firstNotGiven() + b.lowestGivenZeros());
        }
        if (b.firstNotGiven() < 32) {
            place = Math.min(place, b.firstNotGiven() + a.lowestGivenZeros());
        }
        return lostFrom((int) ((long) a.value() * b.value()), place);
    }

    private static Bits below(Bits a, Bits b, boolean signed) {
        Bits x = new Bits(32);
        long mask = signed ? -1L : 0xFFFFFFFFL;
        x.one[0] = (a.value() & mask) < (b.value() & mask);
        boolean always = a.end(true, signed) < b.end(false, signed);
        boolean never = a.end(false, signed) >= b.end(true, signed);
        x.given[0] = always || never;
        return x;
    }

    private static Bits same(Bits a, Bits b) {
        Bits x = new Bits(32);
        boolean settled = false;
        boolean open = false;
        x.one[0] = true;
        for (int i = 0; i < 32; i++) {
            boolean differ = a.one[i] != b.one[i];
            boolean given = a.given[i] && b.given[i];
            x.one[0] &= !differ;
            settled |= differ && given;
            open |= !given;
        }
        x.given[0] = settled || !open;
        return x;
    }

    private static Bits choice(Bits a, Bits b, Bits d) {
        Bits x = new Bits(32);
        for (int i = 0; i < 32; i++) {
            x.take(i, b.one[0] ? a : d, i);
            if (!b.given[0]) {
                x.given[i] = a.given[i] && d.given[i] && a.one[i] == d.one[i];
            }
        }
        return x;
    }

    /** One object beside its model. */
    private static final class Run {
        private final ShadowMath x = new ShadowMath();
        private final Bits[] registers = new Bits[16];
        private final Bits[] octets = new Bits[256];
        private final Random random;
        private final int run;

        Run(int run) {
            this.run = run;
            random = new Random(run);
            for (int r = 0; r < 16; r++) {
                registers[r] = new Bits(32);
            }
            for (int at = 0; at < 256; at++) {
                octets[at] = new Bits(8);
            }
        }

        void go() {
            int calls = 0;
            while (calls < CALLS) {
                calls += step();
            }
            Check.dueState("at the end of run " + run, x, state());
        }

        /** Answers how many calls it made. */
        private int step() {
            switch (random.nextInt(16)) {
                case 0:
                case 1:
                case 2:
                case 3: return set();
                case 4:
                case 5: return store();
                case 6:
                case 7: return load();
                case 8: return ask();
                default: return op();
            }
        }

        private int place(int bound) {
            return random.nextInt(40) == 0 ? random.nextInt(3 * bound) - bound : random.nextInt(bound);
        }

        private int size() {
            return random.nextInt(30) == 0 ? random.nextInt(7) - 1 : 1 << random.nextInt(3);
        }

        private int word() {
            int bits = random.nextInt();
            switch (random.nextInt(5)) {
                case 0: return bits & random.nextInt() & random.nextInt();
                case 1: return bits << random.nextInt(32);
                case 2: return bits >>> random.nextInt(32);
                case 3: return 0;
                default: return bits;
            }
        }

        private boolean isRegister(int r) {
            return r >= 0 && r < 16;
        }

        private int set() {
            int r = place(16);
            int v = word();
            int not = random.nextBoolean() ? word() : word() & word() & word();
            if (isRegister(r)) {
                x.set(r, v, not);
                registers[r] = Bits.of(v, not);
            } else {
                Check.badIndex("set " + r, () -> x.set(r, v, not));
            }
            return 1;
        }

        private int op() {
            int op = random.nextInt(40) == 0 ? random.nextInt(40) - 13 : random.nextInt(13);
            int d = place(16);
            int a = place(16);
            int b = random.nextInt(6) == 0 ? a : place(16);
            if (op < 0 || op > 12) {
                Check.badArgument("op " + op, () -> x.op(op, d, a, b));
            } else if (!isRegister(d) || !isRegister(a) || !isRegister(b)) {
                Check.badIndex("op " + op + " " + d + " " + a + " " + b, () -> x.op(op, d, a, b));
            } else {
                x.op(op, d, a, b);
                registers[d] = outcome(op, registers[a], registers[b], registers[d]);
                Check.due("run " + run + " value of op " + op, x.value(d), registers[d].value());
                Check.due("run " + run + " not of op " + op, x.not(d), registers[d].not());
            }
            return 3;
        }

        /** Whether a transfer is due to happen; if not, that the call throws what is due. */
        private boolean isDue(int r, int at, int n, Check.Call call) {
            if (n != 1 && n != 2 && n != 4) {
                Check.badArgument("transfer of " + n, call);
                return false;
            }
            if (!isRegister(r) || at < 0 || at + n > 256) {
                Check.badIndex("transfer " + r + " at " + at + " of " + n, call);
                return false;
            }
            call.run();
            return true;
        }

        private int store() {
            int r = place(16);
            int at = place(256);
            int n = size();
            if (isDue(r, at, n, () -> x.store(r, at, n))) {
                for (int i = 0; i < 8 * n; i++) {
                    octets[at + i / 8].take(i % 8, registers[r], i);
                }
            }
            return 1;
        }

        private int load() {
            int r = place(16);
            int at = place(256);
            int n = size();
            boolean sign = random.nextBoolean();
            if (isDue(r, at, n, () -> x.load(r, at, n, sign))) {
                Bits come = new Bits(32);
                for (int i = 0; i < 32; i++) {
                    if (i < 8 * n) {
                        come.take(i, octets[at + i / 8], i % 8);
                    } else if (sign) {
                        come.take(i, octets[at + n - 1], 7);
                    }
                }
                registers[r] = come;
            }
            return 1;
        }

        private int ask() {
            int r = random.nextInt(16);
            int at = random.nextInt(256);
            String what = "run " + run + " ";
            Check.due(what + "value", x.value(r), registers[r].value());
            Check.due(what + "not", x.not(r), registers[r].not());
            Check.due(what + "least", x.least(r), registers[r].end(false, true));
            Check.due(what + "greatest", x.greatest(r), registers[r].end(true, true));
            Check.due(what + "octet", x.octet(at), octets[at].value() + 256 * octets[at].not());
            Check.due(what + "count", x.count(), count());
            return MOST_CALLS_A_STEP;
        }

        private int count() {
            int n = 0;
            for (Bits register : registers) {
                for (boolean given : register.given) {
                    n += given ? 0 : 1;
                }
            }
            return n;
        }

        /** The model's state in the form of Check.state. */
        private String state() {
            StringBuilder all = new StringBuilder();
            for (Bits register : registers) {
                all.append(register.value()).append('/').append(register.not()).append(' ');
            }
            for (Bits octet : octets) {
                all.append(octet.value() + 256 * octet.not()).append(' ');
            }
            return all.append(count()).toString();
        }
    }
}

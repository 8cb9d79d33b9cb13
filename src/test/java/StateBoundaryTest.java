/**
 * Promises 1, 2 and 4 to 11, the words of section "Terms" on REGISTERS and MEMORY, and the 512
 * calls of section "What it is": of each sentence that names a boundary case a test of its own.
 * Calls that are refused stand in RefusedCallsTest. The words above a test are the document's.
 */
public final class StateBoundaryTest {
    private static final int MIN = Integer.MIN_VALUE;
    private static final int MAX = Integer.MAX_VALUE;
    private static final int CALLS = 512;
    private static final int WITH_CALLS = 3;
    private static final int[] SIZES = {1, 2, 4};

    public static void main(String[] args) {
        newRegistersAreZeroAndGiven();
        newOctetsAreZeroAndGiven();
        newObjectsAreNewThoughOthersWereUsed();
        firstAndLastRegisterAreApart();
        firstAndLastBitAreApart();
        everyRegisterStandsByItself();
        everyOctetStandsByItself();
        notGivenBitsCountAsTheyStand();
        setGivesNowhereAndEverywhere();
        setTakesTheValueAsItIs();
        setForgetsWhatWasThere();
        storeTakesTheLowestOctets();
        storeIsLowestFirst();
        storeBringsBitsAsTheyAre();
        storeReachesTheFirstAndTheLastOctet();
        storeLeavesTheRegister();
        loadTakesTheLowestFirst();
        loadReachesTheFirstAndTheLastOctet();
        loadWithSignIsWhatTheHighestBitIs();
        loadWithoutSignIsGivenAbove();
        loadOfFourHasNothingAbove();
        loadGoesToTheFirstAndTheLastRegister();
        loadLeavesMemory();
        leastAndGreatestOfWhatIsGiven();
        leastAndGreatestOfWhatIsNot();
        leastAndGreatestAreWithSign();
        octetTellsBothHalves();
        countIsOfNoneAndOfAll();
        countIsOfRegistersAlone();
        answersChangeNothing();
        lastOf512CallsOfEachKind();
        lastOf512CallsThatAreRefused();
        lastOf512CallsOfAllKinds();
        Check.end();
    }

    // Promise 1: "All 0, all GIVEN."
    private static void newRegistersAreZeroAndGiven() {
        ShadowMath x = new ShadowMath();
        for (int r = 0; r <= 15; r++) {
            Check.due("new value " + r, x.value(r), 0);
            Check.due("new not " + r, x.not(r), 0);
            Check.due("new least " + r, x.least(r), 0);
            Check.due("new greatest " + r, x.greatest(r), 0);
        }
        Check.due("new count", x.count(), 0);
    }

    private static void newOctetsAreZeroAndGiven() {
        ShadowMath x = new ShadowMath();
        for (int at = 0; at <= 255; at++) {
            Check.due("new octet " + at, x.octet(at), 0);
        }
    }

    private static void newObjectsAreNewThoughOthersWereUsed() {
        ShadowMath used = new ShadowMath();
        ShadowMath before = new ShadowMath();
        for (int r = 0; r <= 15; r++) {
            used.set(r, -1, -1);
        }
        for (int at = 0; at < 256; at += 4) {
            used.store(0, at, 4);
        }
        ShadowMath after = new ShadowMath();
        for (ShadowMath x : new ShadowMath[] {before, after}) {
            for (int r = 0; r <= 15; r++) {
                Check.due("value of an unused object", x.value(r), 0);
                Check.due("not of an unused object", x.not(r), 0);
            }
            for (int at = 0; at <= 255; at++) {
                Check.due("octet of an unused object", x.octet(at), 0);
            }
        }
    }

    // "REGISTERS 0..15"
    private static void firstAndLastRegisterAreApart() {
        ShadowMath x = new ShadowMath();
        x.set(0, 3, 1);
        Check.due("value of 15, 0 being set", x.value(15), 0);
        Check.due("not of 15, 0 being set", x.not(15), 0);
        x.set(15, 9, 8);
        Check.due("value of 0", x.value(0), 3);
        Check.due("not of 0", x.not(0), 1);
        Check.due("value of 15", x.value(15), 9);
        Check.due("not of 15", x.not(15), 8);
    }

    // "have 32 bits"
    private static void firstAndLastBitAreApart() {
        ShadowMath x = new ShadowMath();
        x.set(0, 1, MIN);
        x.set(15, MIN, 1);
        Check.due("value with the first bit", x.value(0), 1);
        Check.due("not with the last bit", x.not(0), MIN);
        Check.due("value with the last bit", x.value(15), MIN);
        Check.due("not with the first bit", x.not(15), 1);
        Check.due("count of both", x.count(), 2);
    }

    private static void everyRegisterStandsByItself() {
        for (int r = 0; r <= 15; r++) {
            ShadowMath x = new ShadowMath();
            x.set(r, -1, MAX);
            for (int other = 0; other <= 15; other++) {
                Check.due("value of " + other + " with " + r + " set", x.value(other), other == r ? -1 : 0);
                Check.due("not of " + other + " with " + r + " set", x.not(other), other == r ? MAX : 0);
            }
        }
    }

    // "MEMORY has 256 octets, likewise"
    private static void everyOctetStandsByItself() {
        for (int at = 0; at <= 255; at++) {
            ShadowMath x = new ShadowMath();
            x.set(1, -1, -1);
            x.store(1, at, 1);
            for (int other = 0; other <= 255; other++) {
                Check.due("octet " + other + " with " + at + " stored", x.octet(other), other == at ? 0xFFFF : 0);
            }
        }
    }

    // "what a bit has that is not GIVEN counts in VALUES as it stands"
    private static void notGivenBitsCountAsTheyStand() {
        ShadowMath x = new ShadowMath();
        x.set(1, -1, -1);
        x.set(2, 0, -1);
        Check.due("value of ones not GIVEN", x.value(1), -1);
        Check.due("value of zeros not GIVEN", x.value(2), 0);
        x.store(1, 0, 1);
        x.store(2, 1, 1);
        Check.due("octet of ones not GIVEN", x.octet(0), 0xFFFF);
        Check.due("octet of zeros not GIVEN", x.octet(1), 0xFF00);
        x.load(3, 0, 1, false);
        Check.due("value of ones loaded", x.value(3), 255);
    }

    // Promise 2: "its bits that are 1 in not are not GIVEN"
    private static void setGivesNowhereAndEverywhere() {
        for (int not : new int[] {0, -1, 1, MIN, MAX, MIN + 1, 0x55555555, 0xAAAAAAAA}) {
            ShadowMath x = new ShadowMath();
            x.set(4, 0x0F0F0F0F, not);
            Check.due("not that is set", x.not(4), not);
            Check.due("value beside it", x.value(4), 0x0F0F0F0F);
        }
        for (int place = 0; place < 32; place++) {
            ShadowMath x = new ShadowMath();
            x.set(4, 0, 1 << place);
            Check.due("not at one place", x.not(4), 1 << place);
            Check.due("count at one place", x.count(), 1);
        }
    }

    // Promise 2: "A REGISTER has v"
    private static void setTakesTheValueAsItIs() {
        for (int v : new int[] {0, 1, -1, MIN, MAX, MIN + 1, MAX - 1, 0x80000001}) {
            for (int not : new int[] {0, -1, MIN}) {
                ShadowMath x = new ShadowMath();
                x.set(15, v, not);
                Check.due("value that is set", x.value(15), v);
            }
        }
    }

    private static void setForgetsWhatWasThere() {
        ShadowMath x = new ShadowMath();
        x.set(0, -1, -1);
        x.set(0, 0, 0);
        Check.due("value set to 0", x.value(0), 0);
        Check.due("not set to none", x.not(0), 0);
        x.set(0, 8, 1);
        Check.due("value set again", x.value(0), 8);
        Check.due("not set again", x.not(0), 1);
    }

    // Promise 4: "The n lowest octets of a REGISTER (1, 2, 4) come to MEMORY from at on"
    private static void storeTakesTheLowestOctets() {
        int[] due = {0x8804, 0x4403, 0x2202, 0x1101};
        for (int n : SIZES) {
            ShadowMath x = new ShadowMath();
            x.set(3, 0x01020304, 0x11224488);
            x.store(3, 100, n);
            Check.due("octet before size " + n, x.octet(99), 0);
            for (int i = 0; i < 4; i++) {
                Check.due("octet " + i + " of size " + n, x.octet(100 + i), i < n ? due[i] : 0);
            }
            Check.due("octet after size " + n, x.octet(100 + n), 0);
        }
    }

    // Promise 4: "the lowest first"
    private static void storeIsLowestFirst() {
        ShadowMath x = new ShadowMath();
        x.set(0, 0x00000001, MIN);
        x.store(0, 0, 4);
        Check.due("octet with the lowest bit", x.octet(0), 1);
        Check.due("octet with the highest bit", x.octet(3), 0x8000);
        x.set(0, 0x0100, 0x8000);
        x.store(0, 8, 2);
        Check.due("first of two", x.octet(8), 0);
        Check.due("second of two", x.octet(9), 0x8001);
    }

    // Promise 4: "as they are": also over octets that were less GIVEN, or more.
    private static void storeBringsBitsAsTheyAre() {
        for (int n : SIZES) {
            ShadowMath x = new ShadowMath();
            x.set(1, -1, -1);
            x.set(2, 0, 0);
            x.store(1, 20, n);
            x.store(2, 20, n);
            Check.due("first octet GIVEN again", x.octet(20), 0);
            Check.due("last octet GIVEN again", x.octet(20 + n - 1), 0);
            x.store(1, 20, n);
            Check.due("first octet not GIVEN again", x.octet(20), 0xFFFF);
            Check.due("last octet not GIVEN again", x.octet(20 + n - 1), 0xFFFF);
        }
    }

    private static void storeReachesTheFirstAndTheLastOctet() {
        for (int n : SIZES) {
            ShadowMath first = new ShadowMath();
            first.set(0, 0x44332211, 0x10204080);
            first.store(0, 0, n);
            Check.due("octet 0 after size " + n, first.octet(0), 0x8011);
            Check.due("octet 255, 0 being stored", first.octet(255), 0);
            ShadowMath last = new ShadowMath();
            last.set(15, 0x44332211, 0x10204080);
            last.store(15, 256 - n, n);
            int[] due = {0, 0x8011, 0x4022, 0, 0x1044};
            Check.due("octet 255 after size " + n, last.octet(255), due[n]);
            Check.due("octet 0, 255 being stored", last.octet(0), 0);
            Check.due("octet before the last", last.octet(255 - n), 0);
        }
    }

    private static void storeLeavesTheRegister() {
        for (int n : SIZES) {
            ShadowMath x = new ShadowMath();
            x.set(5, 0x87654321, 0x12345678);
            x.store(5, 0, n);
            Check.due("value after store", x.value(5), 0x87654321);
            Check.due("not after store", x.not(5), 0x12345678);
            Check.due("count after store", x.count(), 13);
        }
    }

    /** MEMORY from at on has the lowest n octets of value; WITH_CALLS calls have been made. */
    private static ShadowMath with(int at, int n, int value, int not) {
        ShadowMath x = new ShadowMath();
        x.set(9, value, not);
        x.store(9, at, n);
        x.set(9, 0, 0);
        return x;
    }

    private static void loads(ShadowMath x, int r, int at, int n, boolean sign, int value, int not) {
        x.set(r, 0x33CC33CC, 0x0FF00FF0);
        x.load(r, at, n, sign);
        String what = " of " + r + " after load at " + at + ", size " + n + ", " + sign;
        Check.due("value" + what, x.value(r), value);
        Check.due("not" + what, x.not(r), not);
    }

    // Promise 5: "n octets (1, 2, 4) come to a REGISTER"
    private static void loadTakesTheLowestFirst() {
        ShadowMath x = with(60, 4, 0x04030201, 0x08040201);
        loads(x, 1, 60, 1, false, 0x01, 0x01);
        loads(x, 1, 60, 2, false, 0x0201, 0x0201);
        loads(x, 1, 60, 4, false, 0x04030201, 0x08040201);
        loads(x, 1, 63, 1, false, 0x04, 0x08);
        loads(x, 1, 62, 2, true, 0x0403, 0x0804);
        loads(x, 1, 57, 4, true, 0x01000000, 0x01000000);
        loads(x, 1, 64, 4, true, 0, 0);
    }

    private static void loadReachesTheFirstAndTheLastOctet() {
        for (int n : SIZES) {
            int full = n == 4 ? 0x04030201 : n == 2 ? 0x0201 : 0x01;
            loads(with(0, n, 0x04030201, 0x04030201), 2, 0, n, true, full, full);
            loads(with(256 - n, n, 0x04030201, 0x04030201), 2, 256 - n, n, true, full, full);
            loads(with(0, n, 0x04030201, 0x04030201), 2, 256 - n, n, true, 0, 0);
        }
    }

    // Promise 5: "with sign (its bits are what the highest one is)"
    private static void loadWithSignIsWhatTheHighestBitIs() {
        loads(with(0, 1, 0x80, 0), 1, 0, 1, true, -128, 0);
        loads(with(0, 1, 0x7F, 0), 1, 0, 1, true, 127, 0);
        loads(with(0, 1, 0x80, 0x80), 1, 0, 1, true, -128, -128);
        loads(with(0, 1, 0, 0x80), 1, 0, 1, true, 0, -128);
        loads(with(0, 1, 0x80, 0x7F), 1, 0, 1, true, -128, 0x7F);
        loads(with(0, 1, 0xFF, 0xFF), 1, 0, 1, true, -1, -1);
        loads(with(0, 2, 0x8000, 0), 1, 0, 2, true, -32768, 0);
        loads(with(0, 2, 0x7FFF, 0), 1, 0, 2, true, 32767, 0);
        loads(with(0, 2, 0x8000, 0x8000), 1, 0, 2, true, -32768, -32768);
        loads(with(0, 2, 0, 0x8000), 1, 0, 2, true, 0, -32768);
        loads(with(0, 2, 0x8000, 0x7FFF), 1, 0, 2, true, -32768, 0x7FFF);
        // The first octet's highest bit is not the sign of two.
        loads(with(0, 2, 0x0080, 0x0080), 1, 0, 2, true, 0x80, 0x80);
    }

    // Promise 5: "or not"
    private static void loadWithoutSignIsGivenAbove() {
        loads(with(0, 1, 0x80, 0x80), 1, 0, 1, false, 0x80, 0x80);
        loads(with(0, 1, 0xFF, 0xFF), 1, 0, 1, false, 0xFF, 0xFF);
        loads(with(0, 1, 0, 0x80), 1, 0, 1, false, 0, 0x80);
        loads(with(0, 2, 0x8000, 0x8000), 1, 0, 2, false, 0x8000, 0x8000);
        loads(with(0, 2, 0xFFFF, 0xFFFF), 1, 0, 2, false, 0xFFFF, 0xFFFF);
    }

    private static void loadOfFourHasNothingAbove() {
        for (boolean sign : new boolean[] {true, false}) {
            loads(with(8, 4, MIN, 0), 1, 8, 4, sign, MIN, 0);
            loads(with(8, 4, 0, MIN), 1, 8, 4, sign, 0, MIN);
            loads(with(8, 4, -1, -1), 1, 8, 4, sign, -1, -1);
            loads(with(8, 4, MAX, 0x00800000), 1, 8, 4, sign, MAX, 0x00800000);
            loads(with(8, 4, 0x00800000, MAX), 1, 8, 4, sign, 0x00800000, MAX);
        }
    }

    private static void loadGoesToTheFirstAndTheLastRegister() {
        for (int n : SIZES) {
            ShadowMath x = with(30, n, 0x01010101, 0x02020202);
            int value = n == 4 ? 0x01010101 : n == 2 ? 0x0101 : 1;
            loads(x, 0, 30, n, true, value, 2 * value);
            Check.due("value of 15, 0 being loaded", x.value(15), 0);
            loads(x, 15, 30, n, true, value, 2 * value);
            Check.due("value of 0 after 15", x.value(0), value);
        }
    }

    private static void loadLeavesMemory() {
        for (int n : SIZES) {
            ShadowMath x = with(252, 4, 0x84838281, 0x48382818);
            x.load(1, 256 - n, n, true);
            x.load(1, 252, n, false);
            Check.due("octet 252 after load", x.octet(252), 0x1881);
            Check.due("octet 253 after load", x.octet(253), 0x2882);
            Check.due("octet 254 after load", x.octet(254), 0x3883);
            Check.due("octet 255 after load", x.octet(255), 0x4884);
        }
    }

    private static void ends(int v, int not, int least, int greatest) {
        for (int r : new int[] {0, 8, 15}) {
            ShadowMath x = new ShadowMath();
            x.set(r, v, not);
            Check.due("least of " + v + "/" + not, x.least(r), least);
            Check.due("greatest of " + v + "/" + not, x.greatest(r), greatest);
        }
    }

    // Promises 8 and 9: with all GIVEN both are the VALUE.
    private static void leastAndGreatestOfWhatIsGiven() {
        for (int v : new int[] {0, 1, -1, MIN, MAX, 0x12345678}) {
            ends(v, 0, v, v);
        }
    }

    // "whatever the bits are that are not GIVEN"
    private static void leastAndGreatestOfWhatIsNot() {
        for (int v : new int[] {0, 1, -1, MIN, MAX, 0x12345678}) {
            ends(v, -1, MIN, MAX);
        }
        ends(0, 1, 0, 1);
        ends(1, 1, 0, 1);
        ends(0, MAX, 0, MAX);
        ends(MAX, MAX, 0, MAX);
        ends(MIN, MAX, MIN, -1);
        ends(-1, MAX, MIN, -1);
    }

    // "with sign"
    private static void leastAndGreatestAreWithSign() {
        ends(0, MIN, MIN, 0);
        ends(MIN, MIN, MIN, 0);
        ends(-1, MIN, -1, MAX);
        ends(MAX, MIN, -1, MAX);
        ends(5, MIN + 2, MIN + 5, 7);
        ends(-2, 1, -2, -1);
        ends(-1, 1, -2, -1);
    }

    // Promise 10: "An octet, and 256 times which of its bits are not GIVEN."
    private static void octetTellsBothHalves() {
        int[][] halves = {{0, 0, 0}, {255, 0, 255}, {0, 255, 65280}, {255, 255, 65535}, {128, 1, 384}, {1, 128, 32769}};
        for (int[] half : halves) {
            for (int at : new int[] {0, 127, 128, 255}) {
                ShadowMath x = with(at, 1, half[0], half[1]);
                Check.due("octet " + at + " of " + half[0] + "/" + half[1], x.octet(at), half[2]);
            }
        }
        // What lies above the lowest octet stays out of it.
        Check.due("octet of a full register", with(3, 1, -256, -256).octet(3), 0);
    }

    // Promise 11: "How many bits of all REGISTERS are not GIVEN."
    private static void countIsOfNoneAndOfAll() {
        ShadowMath x = new ShadowMath();
        Check.due("count of none", x.count(), 0);
        for (int r = 0; r <= 15; r++) {
            x.set(r, 0, -1);
        }
        Check.due("count of all", x.count(), 512);
        x.set(0, -1, 0);
        Check.due("count of all but the first", x.count(), 480);
        x.set(15, -1, 0);
        Check.due("count of all but the ends", x.count(), 448);
        for (int r = 1; r < 15; r++) {
            x.set(r, -1, 0);
        }
        Check.due("count of none again", x.count(), 0);
        x.set(15, 0, MIN);
        Check.due("count of the very last bit", x.count(), 1);
    }

    private static void countIsOfRegistersAlone() {
        ShadowMath x = new ShadowMath();
        x.set(0, 0, -1);
        for (int at = 0; at < 256; at += 4) {
            x.store(0, at, 4);
        }
        x.set(0, 0, 0);
        Check.due("count with no octet GIVEN", x.count(), 0);
        x.load(15, 252, 1, true);
        Check.due("count of an octet with sign", x.count(), 32);
        x.load(15, 252, 1, false);
        Check.due("count of an octet without", x.count(), 8);
        x.op(0, 0, 15, 15);
        Check.due("count after a sum", x.count(), 40);
    }

    // Promises 6 to 11 tell; none of them says that something changes.
    private static void answersChangeNothing() {
        ShadowMath x = with(0, 4, 0x87654321, 0x12345678);
        ShadowMath y = with(0, 4, 0x87654321, 0x12345678);
        x.set(15, -5, 6);
        y.set(15, -5, 6);
        for (int i = 0; i < 20; i++) {
            x.value(15);
            x.not(15);
            x.least(15);
            x.greatest(15);
            x.octet(0);
            x.count();
        }
        Check.dueState("after calls that tell", x, Check.state(y));
    }

    // "An object is used for at most 512 calls after it has been made"
    private static void lastOf512CallsOfEachKind() {
        ShadowMath sets = new ShadowMath();
        for (int call = 1; call < CALLS; call++) {
            sets.set(call % 16, call, -call);
        }
        Check.due("value after 511 sets", sets.value(15), 511);
        ShadowMath ops = new ShadowMath();
        ops.set(1, 1, 0);
        for (int call = 2; call < CALLS; call++) {
            ops.op(0, 0, 0, 1);
        }
        Check.due("value after 510 ops", ops.value(0), 510);
        ShadowMath stores = new ShadowMath();
        stores.set(1, 0x7F, 0x70);
        for (int call = 2; call < CALLS; call++) {
            stores.store(1, call % 256, 1);
        }
        Check.due("octet after 510 stores", stores.octet(255), 0x707F);
        ShadowMath loads = with(255, 1, 0xFF, 0x80);
        for (int call = 1 + WITH_CALLS; call < CALLS; call++) {
            loads.load(call % 16, 255, 1, true);
        }
        Check.due("value after 508 loads", loads.value(15), -1);
        ShadowMath tells = with(0, 1, 0xFF, 0x80);
        for (int call = 1 + WITH_CALLS; call <= CALLS; call++) {
            Check.due("octet told as call " + call, tells.octet(0), 0x80FF);
        }
    }

    private static void lastOf512CallsThatAreRefused() {
        ShadowMath x = new ShadowMath();
        x.set(15, 7, 4);
        for (int call = 2; call < CALLS; call += 3) {
            Check.badIndex("set from call " + call, () -> x.set(16, 1, 0));
            Check.badArgument("op from call " + call, () -> x.op(13, 15, 15, 15));
            Check.badArgument("store from call " + call, () -> x.store(15, 0, 3));
        }
        Check.due("value after 510 refused calls", x.value(15), 7);
    }

    private static void lastOf512CallsOfAllKinds() {
        ShadowMath x = new ShadowMath();
        x.set(2, 1, 0);
        x.set(1, 0, 0x80);
        int calls = 2;
        int rounds = 0;
        while (calls + 6 < CALLS) {
            x.store(1, 255, 1);
            x.load(3, 255, 1, true);
            x.op(0, 1, 1, 2);
            rounds++;
            Check.due("value in round " + rounds, x.value(1), rounds);
            Check.due("not in round " + rounds, x.not(1), -128);
            Check.due("octet in round " + rounds, x.octet(255), (rounds - 1) % 256 + 256 * 0x80);
            x.set(1, rounds, 0x80);
            calls += 7;
        }
        while (calls < CALLS) {
            Check.due("count, call " + calls, x.count(), 26);
            calls++;
        }
    }
}

/**
 * Promise 3 and the block of OPS in section "Terms": of each sentence that names a boundary case a
 * test of its own, with outcomes written out by hand. The words above a test are the document's.
 */
public final class OpBoundaryTest {
    private static final int MIN = Integer.MIN_VALUE;
    private static final int MAX = Integer.MAX_VALUE;

    /** Pairs of b and the shift that its lowest 5 bits are. */
    private static final int[][] SHIFTS = {
        {0, 0}, {1, 1}, {30, 30}, {31, 31}, {32, 0}, {33, 1}, {63, 31}, {64, 0}, {0x7FFFFFE1, 1},
        {-1, 31}, {-2, 30}, {-31, 1}, {-32, 0}, {-33, 31}, {MIN, 0}, {MIN + 1, 1}, {MAX, 31},
    };

    public static void main(String[] args) {
        valuesWrapInSums();
        valuesWrapInDifferences();
        valuesWrapInProducts();
        notGivenCountsAsItStands();
        allGivenStaysGiven();
        sumsLoseFromTheLowestOn();
        andIsSettledByAGivenZero();
        orIsSettledByAGivenOne();
        exclusiveOrIsNeverSettled();
        shiftsAreByTheLowestFiveBits();
        bitsGoWithWhatTheyAre();
        bitsThatComeInAreGiven();
        bitsThatComeInAreAsTheSignIs();
        nothingIsGivenIfTheShiftIsNot();
        higherBitsOfTheShiftDoNotMatter();
        productsLoseFromTheLowestOn();
        productsLoseFurtherUp();
        productsLoseFromTheLowerPlace();
        productsOfAGivenZeroLoseNothing();
        productsLoseNothingAboveTheWord();
        belowWithSign();
        belowWithoutSign();
        belowHangsOnBitsThatAreNotGiven();
        belowWithoutSignHangsOnBitsThatAreNotGiven();
        sameOrNot();
        sameHangsOnBitsThatAreNotGiven();
        comparisonsLoseOnlyBitZero();
        bitsAreByThemselvesThoughBothBeOneRegister();
        choiceIsByTheLowestBit();
        choiceBringsWhatIsGiven();
        choiceByABitThatIsNotGiven();
        choiceTakesWhatTheTargetHad();
        operandsAreAsTheyWere();
        firstAndLastRegister();
        Check.end();
    }

    /** Each pair is also tried in the first and the last registers. */
    private static void op(int op, int a, int notA, int b, int notB, int value, int not) {
        run(op, 1, 2, 3, a, notA, b, notB, value, not);
        run(op, 0, 15, 7, a, notA, b, notB, value, not);
        run(op, 15, 7, 0, a, notA, b, notB, value, not);
    }

    private static void run(int op, int d, int ra, int rb, int a, int notA, int b, int notB, int value, int not) {
        ShadowMath x = new ShadowMath();
        x.set(d, 0x5A5A5A5A, 0x00FF00FF);
        x.set(ra, a, notA);
        x.set(rb, b, notB);
        x.op(op, d, ra, rb);
        String what = " of op " + op + " on " + a + "/" + notA + ", " + b + "/" + notB;
        Check.due("value" + what, x.value(d), value);
        Check.due("not" + what, x.not(d), not);
    }

    /** An OP of which it is the same what is a and what is b. */
    private static void bothWays(int op, int a, int notA, int b, int notB, int value, int not) {
        op(op, a, notA, b, notB, value, not);
        op(op, b, notB, a, notA, value, not);
    }

    /** An OP of one REGISTER with itself, to itself and to another. */
    private static void self(int op, int a, int notA, int value, int not) {
        for (int d : new int[] {0, 6, 15}) {
            ShadowMath x = new ShadowMath();
            x.set(d, a, notA);
            x.set(6, a, notA);
            x.op(op, d, 6, 6);
            String what = " of op " + op + " on " + a + "/" + notA + " and itself to " + d;
            Check.due("value" + what, x.value(d), value);
            Check.due("not" + what, x.not(d), not);
        }
    }

    // "VALUES by 32 bits, wrapping"
    private static void valuesWrapInSums() {
        bothWays(0, MAX, 0, 1, 0, MIN, 0);
        bothWays(0, -1, 0, 1, 0, 0, 0);
        bothWays(0, MIN, 0, MIN, 0, 0, 0);
        bothWays(0, MIN, 0, -1, 0, MAX, 0);
        bothWays(0, MAX, 0, MAX, 0, -2, 0);
        bothWays(0, -1, 0, -1, 0, -2, 0);
        bothWays(0, MAX, 0, 1, MIN, MIN, MIN);
    }

    private static void valuesWrapInDifferences() {
        op(1, 0, 0, 1, 0, -1, 0);
        op(1, MIN, 0, 1, 0, MAX, 0);
        op(1, MAX, 0, -1, 0, MIN, 0);
        op(1, 0, 0, MIN, 0, MIN, 0);
        op(1, MIN, 0, MAX, 0, 1, 0);
        op(1, -2, 0, MAX, 0, MAX, 0);
        op(1, MIN, MIN, 1, 0, MAX, MIN);
    }

    private static void valuesWrapInProducts() {
        bothWays(8, MAX, 0, 2, 0, -2, 0);
        bothWays(8, MIN, 0, 2, 0, 0, 0);
        bothWays(8, MIN, 0, -1, 0, MIN, 0);
        bothWays(8, MIN, 0, MIN, 0, 0, 0);
        bothWays(8, MAX, 0, MAX, 0, 1, 0);
        bothWays(8, -1, 0, -1, 0, 1, 0);
        bothWays(8, 0x10000, 0, 0x10000, 0, 0, 0);
        bothWays(8, 0x10001, 0, 0x10001, 0, 0x20001, 0);
        bothWays(8, 0x12345678, 0, 0x9ABCDEF0, 0, 0x242D2080, 0);
    }

    // "what a bit has that is not GIVEN counts in VALUES as it stands"
    private static void notGivenCountsAsItStands() {
        op(0, -1, -1, 1, -1, 0, -1);
        op(1, 5, -1, 7, -1, -2, -1);
        op(2, 12, -1, 10, -1, 8, -1);
        op(3, 12, -1, 10, -1, 14, -1);
        op(4, 12, -1, 10, -1, 6, -1);
        op(5, 3, -1, 4, -1, 48, -1);
        op(6, MIN, -1, 31, -1, 1, -1);
        op(7, MIN, -1, 31, -1, -1, -1);
        op(8, -3, -1, 7, -1, -21, -1);
        op(9, -1, -1, 0, -1, 1, 1);
        op(9, 0, -1, -1, -1, 0, 1);
        op(10, -1, -1, 0, -1, 0, 1);
        op(10, 0, -1, -1, -1, 1, 1);
        op(11, 9, -1, 9, -1, 1, 1);
        op(11, 9, -1, 8, -1, 0, 1);
        op(12, 9, -1, 1, -1, 9, -1);
        op(12, 9, -1, 0, -1, 0x5A5A5A5A, -1);
    }

    // "GIVEN is all of what comes out but": with all GIVEN that goes in, nothing of it is lost.
    private static void allGivenStaysGiven() {
        int[][] outcomes = {
            {0, 2}, {1, -8}, {2, 5}, {3, -3}, {4, -8}, {5, -96}, {6, 0x07FFFFFF}, {7, -1},
            {8, -15}, {9, 1}, {10, 0}, {11, 0}, {12, -3},
        };
        for (int[] outcome : outcomes) {
            op(outcome[0], -3, 0, 5, 0, outcome[1], 0);
        }
    }

    // "from the lowest bit on that is not GIVEN in one of both"
    private static void sumsLoseFromTheLowestOn() {
        for (int op = 0; op <= 1; op++) {
            op(op, 0, 0, 0, 0, 0, 0);
            bothWays(op, 0, 1, 0, 0, 0, -1);
            bothWays(op, 0, 2, 0, 0, 0, -2);
            bothWays(op, 0, 0x40000000, 0, 0, 0, 0xC0000000);
            bothWays(op, 0, MIN, 0, 0, 0, MIN);
            bothWays(op, 0, MIN, 0, 1, 0, -1);
            bothWays(op, 0, MIN, 0, 0x100, 0, -256);
            bothWays(op, 0, 0x8010, 0, 0x4020, 0, -16);
            bothWays(op, 0, -1, 0, 0, 0, -1);
            op(op, 0, MIN, 0, MIN, 0, MIN);
            op(op, 0, -1, 0, -1, 0, -1);
        }
        // Lost to the top though no carry could come so far.
        op(0, 0, 1, 0, 0, 0, -1);
        op(1, 8, 0, 0, 4, 8, -4);
    }

    // "2 and: where one is not GIVEN, unless the other one is GIVEN as 0 there"
    private static void andIsSettledByAGivenZero() {
        bothWays(2, -1, -1, 0, 0, 0, 0);
        bothWays(2, 0, -1, 0, 0, 0, 0);
        bothWays(2, 0, -1, -1, 0, 0, -1);
        bothWays(2, -1, -1, -1, 0, -1, -1);
        op(2, 0, -1, 0, -1, 0, -1);
        bothWays(2, 0, -1, -1, -1, 0, -1);
        bothWays(2, 0, MIN | 1, MIN, 0, 0, MIN);
        bothWays(2, 0, MIN | 1, 1, 0, 0, 1);
        // A 0 that is not GIVEN itself settles nothing.
        bothWays(2, 4, 4, 0, 4, 0, 4);
    }

    // "3 or: likewise, as 1"
    private static void orIsSettledByAGivenOne() {
        bothWays(3, 0, -1, -1, 0, -1, 0);
        bothWays(3, -1, -1, -1, 0, -1, 0);
        bothWays(3, 0, -1, 0, 0, 0, -1);
        bothWays(3, -1, -1, 0, 0, -1, -1);
        op(3, -1, -1, -1, -1, -1, -1);
        bothWays(3, 0, -1, -1, -1, -1, -1);
        bothWays(3, 0, MIN | 1, MIN, 0, MIN, 1);
        bothWays(3, 0, MIN | 1, 1, 0, 1, MIN);
        // A 1 that is not GIVEN itself settles nothing.
        bothWays(3, 0, 4, 4, 4, 4, 4);
    }

    // "4 exclusive or: where one is not GIVEN"
    private static void exclusiveOrIsNeverSettled() {
        bothWays(4, -1, -1, 0, 0, -1, -1);
        bothWays(4, -1, -1, -1, 0, 0, -1);
        bothWays(4, 0, MIN, 0, 1, 0, MIN | 1);
        op(4, 0, MIN, 0, MIN, 0, MIN);
        op(4, -1, 1, -1, 1, 0, 1);
        self(4, 0x1234, 0x10, 0, 0x10);
    }

    // "shifts by the lowest 5 bits of b"
    private static void shiftsAreByTheLowestFiveBits() {
        int[] left = {0x80000001, 2, 0x40000000, MIN};
        int[] right = {0x80000001, 0x40000000, 2, 1};
        int[] withSign = {0x80000001, 0xC0000000, -2, -1};
        for (int[] shift : SHIFTS) {
            int row = shift[1] < 2 ? shift[1] : shift[1] - 28;
            op(5, 0x80000001, 0, shift[0], 0, left[row], 0);
            op(6, 0x80000001, 0, shift[0], 0, right[row], 0);
            op(7, 0x80000001, 0, shift[0], 0, withSign[row], 0);
        }
    }

    // "bits go with what they are"
    private static void bitsGoWithWhatTheyAre() {
        int[] left = {0x80000001, 2, 0x40000000, MIN};
        int[] right = {0x80000001, 0x40000000, 2, 1};
        int[] withSign = {0x80000001, 0xC0000000, -2, -1};
        for (int[] shift : SHIFTS) {
            int row = shift[1] < 2 ? shift[1] : shift[1] - 28;
            op(5, 0, 0x80000001, shift[0], 0, 0, left[row]);
            op(6, 0, 0x80000001, shift[0], 0, 0, right[row]);
            op(7, 0, 0x80000001, shift[0], 0, 0, withSign[row]);
        }
        op(5, 0x0F, 0xF0, 4, 0, 0xF0, 0xF00);
        op(6, 0x0F, 0xF0, 4, 0, 0, 0x0F);
        op(7, 0x0F, 0xF0, 4, 0, 0, 0x0F);
    }

    // "those that come in are GIVEN"
    private static void bitsThatComeInAreGiven() {
        op(5, -1, -1, 1, 0, -2, -2);
        op(5, -1, -1, 31, 0, MIN, MIN);
        op(5, -1, -1, 0, 0, -1, -1);
        op(6, -1, -1, 1, 0, MAX, MAX);
        op(6, -1, -1, 31, 0, 1, 1);
        op(6, -1, -1, 0, 0, -1, -1);
        op(7, -1, MAX, 1, 0, -1, 0x3FFFFFFF);
        op(7, MAX, MAX, 1, 0, 0x3FFFFFFF, 0x3FFFFFFF);
        op(7, MIN, MAX, 31, 0, -1, 0);
    }

    // "of 7 they are as the sign is"
    private static void bitsThatComeInAreAsTheSignIs() {
        op(7, MIN, 0, 31, 0, -1, 0);
        op(7, MAX, 0, 31, 0, 0, 0);
        op(7, MIN, MIN, 31, 0, -1, -1);
        op(7, MAX, MIN, 31, 0, 0, -1);
        op(7, MIN, MIN, 1, 0, 0xC0000000, 0xC0000000);
        op(7, 0, MIN, 1, 0, 0, 0xC0000000);
        op(7, 0, MIN, 0, 0, 0, MIN);
        op(7, 0, MIN, 32, 0, 0, MIN);
    }

    // "nothing is GIVEN if one of the lowest 5 bits of b is not"
    private static void nothingIsGivenIfTheShiftIsNot() {
        for (int op = 5; op <= 7; op++) {
            for (int place = 0; place < 5; place++) {
                op(op, 0, 0, 0, 1 << place, 0, -1);
                op(op, 5, 0, 0, 1 << place, 5, -1);
            }
            op(op, 0, 0, 0, 31, 0, -1);
            op(op, 0, 0, 0, -1, 0, -1);
            op(op, 0, -1, 0, 16, 0, -1);
        }
        op(5, 1, 0, 31, 16, MIN, -1);
        op(6, MIN, 0, 31, 16, 1, -1);
        op(7, MIN, 0, 31, 16, -1, -1);
    }

    private static void higherBitsOfTheShiftDoNotMatter() {
        for (int op = 5; op <= 7; op++) {
            op(op, 6, 2, 0, 32, 6, 2);
            op(op, 6, 2, 0, MIN, 6, 2);
            op(op, 6, 2, -32, -32, 6, 2);
        }
        op(5, 1, 1, -1, -32, MIN, MIN);
        op(6, MIN, MIN, -1, -32, 1, 1);
        op(7, MIN, 0, -1, -32, -1, 0);
    }

    // "8 a * b: from the lowest bit on that is not GIVEN in one of both"
    private static void productsLoseFromTheLowestOn() {
        bothWays(8, 0, 1, 1, 0, 0, -1);
        bothWays(8, 1, MIN, 1, 0, 1, MIN);
        bothWays(8, 1, 0x40000000, 3, 0, 3, 0xC0000000);
        bothWays(8, 1, 16, 1, 0x100, 1, -16);
        op(8, 0, -1, 0, -1, 0, -1);
        op(8, 5, 0, 7, 0, 35, 0);
    }

    // "further up by as many as the other one has lowest bits that are GIVEN as 0"
    private static void productsLoseFurtherUp() {
        bothWays(8, 0, 1, 2, 0, 0, -2);
        bothWays(8, 0, 1, 0x40000000, 0, 0, 0xC0000000);
        bothWays(8, 0, 1, MIN, 0, 0, MIN);
        bothWays(8, 0, 0x10, 0x30, 0, 0, -256);
        // A lowest bit that stands as 0 but is not GIVEN ends the row of zeros.
        bothWays(8, 0, 1, 0, 1, 0, -1);
        bothWays(8, 1, 2, 16, 8, 16, -8);
        bothWays(8, 4, 4, 8, 0, 32, -32);
        // Zeros above a 1 do not count.
        bothWays(8, 0, 4, 0x101, 0, 0, -4);
    }

    // "the lower of these two places"
    private static void productsLoseFromTheLowerPlace() {
        bothWays(8, 4, 8, 16, 32, 64, -128);
        bothWays(8, 16, 0x1000, 4, 0x10, 64, -256);
        bothWays(8, 16, 0x40, 4, 0x1000, 64, -256);
        bothWays(8, 1, MIN, 2, 4, 2, -4);
        bothWays(8, 0, MIN, 0, 1, 0, MIN);
    }

    // "32 GIVEN 0: nothing is lost by it"
    private static void productsOfAGivenZeroLoseNothing() {
        bothWays(8, -1, -1, 0, 0, 0, 0);
        bothWays(8, 0, -1, 0, 0, 0, 0);
        bothWays(8, 0, 1, 0, 0, 0, 0);
        bothWays(8, 7, MIN, 0, 0, 0, 0);
        // 31 of them are not 32.
        bothWays(8, 0, 1, 0, MIN, 0, MIN);
        bothWays(8, 0, 1, MIN, 0, 0, MIN);
    }

    private static void productsLoseNothingAboveTheWord() {
        bothWays(8, 0, MIN, 2, 0, 0, 0);
        bothWays(8, 0, 2, MIN, 0, 0, 0);
        bothWays(8, 0, MIN, MIN, 0, 0, 0);
        bothWays(8, 0, 0x10000, 0x10000, 0, 0, 0);
        bothWays(8, 0, 0x8000, 0x10000, 0, 0, MIN);
        op(8, 0, MIN, 0, MIN, 0, 0);
        op(8, 0, 0x10000, 0, 0x10000, 0, 0);
        op(8, 0, 0x8000, 0, 0x8000, 0, 0xC0000000);
    }

    // "9, 10: 1 if a is below b, with sign, without, else 0"
    private static void belowWithSign() {
        op(9, MIN, 0, MAX, 0, 1, 0);
        op(9, MAX, 0, MIN, 0, 0, 0);
        op(9, -1, 0, 0, 0, 1, 0);
        op(9, 0, 0, -1, 0, 0, 0);
        op(9, 0, 0, 0, 0, 0, 0);
        op(9, MIN, 0, MIN, 0, 0, 0);
        op(9, MIN, 0, MIN + 1, 0, 1, 0);
        op(9, MAX - 1, 0, MAX, 0, 1, 0);
        op(9, 1, 0, 0, 0, 0, 0);
    }

    private static void belowWithoutSign() {
        op(10, MIN, 0, MAX, 0, 0, 0);
        op(10, MAX, 0, MIN, 0, 1, 0);
        op(10, -1, 0, 0, 0, 0, 0);
        op(10, 0, 0, -1, 0, 1, 0);
        op(10, 0, 0, 0, 0, 0, 0);
        op(10, -1, 0, -1, 0, 0, 0);
        op(10, -2, 0, -1, 0, 1, 0);
        op(10, 0, 0, 1, 0, 1, 0);
        op(10, 1, 0, 0, 0, 0, 0);
    }

    // "bit 0, if it hangs on bits that are not GIVEN"
    private static void belowHangsOnBitsThatAreNotGiven() {
        // a is at most 5, b 5 or 6: the ends meet, then pass one another.
        op(9, 4, 1, 5, 0, 1, 1);
        op(9, 4, 1, 6, 0, 1, 0);
        op(9, 4, 1, 4, 0, 0, 0);
        op(9, 5, 0, 4, 1, 0, 0);
        op(9, 4, 0, 4, 1, 0, 1);
        op(9, 3, 0, 4, 1, 1, 0);
        // The sign itself: bits not GIVEN make the least negative and the greatest positive.
        op(9, 0, MIN, 0, 0, 0, 1);
        op(9, 0, MIN, MIN, 0, 0, 0);
        op(9, 0, 0, 0, MIN, 0, 0);
        op(9, -1, 0, 0, MIN, 1, 1);
        // Nothing is below the least, and the greatest is below nothing.
        op(9, 0, -1, MIN, 0, 0, 0);
        op(9, 0, -1, MIN + 1, 0, 0, 1);
        op(9, MAX, 0, 0, -1, 0, 0);
        op(9, MAX - 1, 0, 0, -1, 0, 1);
        op(9, MIN, 0, 0, -1, 1, 1);
        op(9, 0, -1, MAX, 0, 1, 1);
        op(9, 0, -1, 0, -1, 0, 1);
    }

    private static void belowWithoutSignHangsOnBitsThatAreNotGiven() {
        op(10, 4, 1, 5, 0, 1, 1);
        op(10, 4, 1, 6, 0, 1, 0);
        op(10, 4, 1, 4, 0, 0, 0);
        op(10, 5, 0, 4, 1, 0, 0);
        op(10, 4, 0, 4, 1, 0, 1);
        op(10, 3, 0, 4, 1, 1, 0);
        op(10, 0, MIN, 0, 0, 0, 0);
        op(10, 0, MIN, 1, 0, 1, 1);
        op(10, 0, MIN, MIN, 0, 1, 1);
        op(10, 0, MIN, MIN + 1, 0, 1, 0);
        op(10, 0, 0, 0, MIN, 0, 1);
        op(10, 0, -1, 0, 0, 0, 0);
        op(10, 0, -1, 1, 0, 1, 1);
        op(10, -1, 0, 0, -1, 0, 0);
        op(10, -2, 0, 0, -1, 0, 1);
        op(10, 0, 0, 0, -1, 0, 1);
        op(10, 0, -1, -1, 0, 1, 1);
        op(10, 0, -1, 0, -1, 0, 1);
    }

    // "11: 1 if both are the same, else 0"
    private static void sameOrNot() {
        op(11, 0, 0, 0, 0, 1, 0);
        op(11, -1, 0, -1, 0, 1, 0);
        op(11, MIN, 0, MIN, 0, 1, 0);
        bothWays(11, 0, 0, 1, 0, 0, 0);
        bothWays(11, 0, 0, MIN, 0, 0, 0);
        bothWays(11, MIN, 0, MAX, 0, 0, 0);
    }

    // "bit 0, likewise"
    private static void sameHangsOnBitsThatAreNotGiven() {
        bothWays(11, 0, 1, 0, 0, 1, 1);
        bothWays(11, 0, MIN, 0, 0, 1, 1);
        bothWays(11, 0, MIN, MIN, 0, 0, 1);
        bothWays(11, 0, -1, 12345, 0, 0, 1);
        bothWays(11, 0, MIN, 0, 1, 1, 1);
        bothWays(11, MIN, MIN, 1, 1, 0, 1);
        op(11, 3, -1, 3, -1, 1, 1);
        // One difference in bits that are GIVEN settles it.
        bothWays(11, 0, -2, 1, 0, 0, 0);
        bothWays(11, 0, MAX, MIN, 0, 0, 0);
        bothWays(11, 0, 4, 3, 4, 0, 0);
    }

    private static void comparisonsLoseOnlyBitZero() {
        for (int op = 9; op <= 11; op++) {
            op(op, 1, -1, 1, -1, op == 11 ? 1 : 0, 1);
        }
    }

    // "they may be anything, those of a and of b by themselves, though both be one REGISTER"
    private static void bitsAreByThemselvesThoughBothBeOneRegister() {
        for (int op = 9; op <= 11; op++) {
            int value = op == 11 ? 1 : 0;
            self(op, 6, 2, value, 1);
            self(op, 6, 1, value, 1);
            self(op, 6, MIN, value, 1);
            self(op, 6, -1, value, 1);
            self(op, 6, 0, value, 0);
        }
        self(1, 6, 2, 0, -2);
        self(1, 6, 0, 0, 0);
        self(2, 6, 3, 6, 3);
        self(3, 6, 3, 6, 3);
        self(8, 8, 16, 64, -128);
    }

    // "12: a if b's lowest bit is 1 (as it stands), else what the REGISTER had to which it comes"
    private static void choiceIsByTheLowestBit() {
        for (int b : new int[] {1, 3, -1, MAX, MIN + 1}) {
            choose(12, 0, b, 0, 5, 0, 12, 0);
        }
        for (int b : new int[] {0, 2, -2, MIN, MAX - 1}) {
            choose(12, 0, b, 0, 5, 0, 5, 0);
        }
        choose(12, 0, 1, 1, 5, 0, 12, 9);
        choose(12, 0, 0, 1, 5, 0, 5, 9);
    }

    // "with what is GIVEN of it"
    private static void choiceBringsWhatIsGiven() {
        choose(12, 4, 1, 0, 5, 2, 12, 4);
        choose(12, 4, 0, 0, 5, 2, 5, 2);
        choose(12, -1, 1, 0, 5, 0, 12, -1);
        choose(12, 0, 1, 0, 5, -1, 12, 0);
        choose(12, -1, 0, 0, 5, 0, 5, 0);
        choose(12, 0, 0, 0, 5, -1, 5, -1);
        // Of b only the lowest bit counts.
        choose(12, 4, 1, -2, 5, 2, 12, 4);
        choose(12, 4, 0, -2, 5, 2, 5, 2);
    }

    // "with that bit not GIVEN, not GIVEN is: where both are not GIVEN as the same"
    private static void choiceByABitThatIsNotGiven() {
        for (int b = 0; b <= 1; b++) {
            for (int notB : new int[] {1, -1}) {
                choose(7, 0, b, notB, 7, 0, 7, 0);
                choose(-1, 0, b, notB, 0, 0, -b, -1);
                choose(MIN, 0, b, notB, 0, 0, b * MIN, MIN);
                choose(1, 0, b, notB, 0, 0, b, 1);
                choose(7, 16, b, notB, 7, 32, 7, 48);
                choose(7, 1, b, notB, 7, 1, 7, 1);
                choose(0, -1, b, notB, 0, 0, 0, -1);
                choose(0, 0, b, notB, 0, -1, 0, -1);
                choose(3, 2, b, notB, 5, 4, b == 1 ? 3 : 5, 6);
            }
        }
    }

    private static void choose(int a, int notA, int b, int notB, int d, int notD, int value, int not) {
        choose(new int[] {3, 1, 2}, a, notA, b, notB, d, notD, value, not);
        choose(new int[] {0, 15, 14}, a, notA, b, notB, d, notD, value, not);
        choose(new int[] {15, 14, 0}, a, notA, b, notB, d, notD, value, not);
    }

    private static void choose(int[] rows, int a, int notA, int b, int notB, int d, int notD, int value, int not) {
        ShadowMath x = new ShadowMath();
        x.set(rows[0], d, notD);
        x.set(rows[1], a, notA);
        x.set(rows[2], b, notB);
        x.op(12, rows[0], rows[1], rows[2]);
        String what = " of choice " + a + "/" + notA + ", " + b + "/" + notB + ", " + d + "/" + notD;
        Check.due("value" + what, x.value(rows[0]), value);
        Check.due("not" + what, x.not(rows[0]), not);
    }

    // "which may be one of them": the REGISTER that is chosen against is a, or b, or both.
    private static void choiceTakesWhatTheTargetHad() {
        into(12, 1, 12, 4, 1, 1, 12, 4);
        into(12, 1, 12, 4, 0, 1, 12, 4);
        into(12, 2, 12, 4, 5, 1, 12, 13);
        into(12, 2, 12, 4, 4, 1, 4, 13);
        into(12, 2, 12, 4, 4, 2, 4, 2);
        into(12, 2, 12, 4, 5, 2, 12, 4);
        self(12, 7, 1, 7, 1);
        self(12, 6, -1, 6, -1);
    }

    // "An OP of REGISTERS a and b, as they were, to d (which may be one of them)"
    private static void operandsAreAsTheyWere() {
        int[][] outcomes = {
            {0, 21, -2}, {1, 17, -2}, {2, 2, 2}, {3, 19, 4}, {4, 17, 6}, {5, 76, 16}, {6, 4, 1}, {7, 4, 1},
            {8, 38, -2}, {9, 0, 0}, {10, 0, 0}, {11, 0, 0},
        };
        for (int[] outcome : outcomes) {
            int op = outcome[0];
            int notB = op >= 5 && op <= 7 ? 32 : 2;
            into(op, 1, 19, 4, 2, notB, outcome[1], outcome[2]);
            into(op, 2, 19, 4, 2, notB, outcome[1], outcome[2]);
        }
        into(9, 1, 2, 1, 3, 0, 1, 1);
        into(9, 2, 2, 1, 3, 0, 1, 1);
        into(10, 1, 2, 1, 3, 0, 1, 1);
        into(10, 2, 2, 1, 3, 0, 1, 1);
        into(11, 1, 2, 1, 3, 0, 0, 1);
        into(11, 2, 2, 1, 3, 0, 0, 1);
        self(0, MIN, MIN, 0, MIN);
        self(5, 1, 0, 2, 0);
        self(8, -1, 0, 1, 0);
    }

    private static void into(int op, int d, int a, int notA, int b, int notB, int value, int not) {
        ShadowMath x = new ShadowMath();
        x.set(1, a, notA);
        x.set(2, b, notB);
        x.op(op, d, 1, 2);
        String what = " of op " + op + " on " + a + "/" + notA + ", " + b + "/" + notB + " to " + d;
        Check.due("value" + what, x.value(d), value);
        Check.due("not" + what, x.not(d), not);
        Check.due("other value" + what, x.value(3 - d), d == 1 ? b : a);
        Check.due("other not" + what, x.not(3 - d), d == 1 ? notB : notA);
    }

    // "REGISTERS 0..15": the ends as d, as a and as b.
    private static void firstAndLastRegister() {
        int[][] places = {{0, 0, 15}, {0, 15, 0}, {15, 0, 15}, {15, 15, 0}, {7, 0, 15}, {7, 15, 0}};
        for (int[] place : places) {
            ShadowMath x = new ShadowMath();
            x.set(0, 9, 8);
            x.set(15, 4, 32);
            x.op(1, place[0], place[1], place[2]);
            Check.due("difference to " + place[0], x.value(place[0]), place[1] == 0 ? 5 : -5);
            Check.due("not of difference to " + place[0], x.not(place[0]), -8);
        }
    }
}

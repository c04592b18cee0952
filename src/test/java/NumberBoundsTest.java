/** The bounds of numbers that stand under 'Terms': what wraps, what is rounded, and by which v. */
public final class NumberBoundsTest {
    /** The fifth kind of cell of whole numbers, which stands in a meadow's bed. */
    private static final int BLOSSOMS = 5;

    private static final int ADD = 0;
    private static final int SUBTRACT = 1;
    private static final int MULTIPLY = 2;
    private static final int DIVIDE = 3;
    private static final int REST = 4;
    private static final int LEFT = 5;
    private static final int RIGHT_WITH_SIGN = 6;
    private static final int RIGHT_WITHOUT_SIGN = 7;
    private static final int AND = 8;
    private static final int OR = 9;
    private static final int EXCLUSIVE_OR = 10;
    private static final int ONE_MORE = 11;
    private static final int ONE_LESS = 12;

    public static void main(String[] args) {
        marksAreZeroTo65535();
        heatsAreMinus32768To32767();
        swarmsAreZeroOrOne();
        mitesAreMinus128To127();
        blossomsAreInts();
        plusWraps();
        minusWraps();
        timesWraps();
        dividedTowardsZero();
        dividedWraps();
        restHasTheSignOfX();
        shiftsAreByTheLowestFiveBits();
        shiftLeftDropsWhatDoesNotFit();
        shiftRightKeepsTheSign();
        shiftRightWithoutSignIsOfTheInt();
        bitsOfAllThirtyTwo();
        oneMoreAndOneLessLeaveVOut();
        allOperationsOfWholeNumbers();
        swarmsTakeVAsWhetherItIsNotZero();
        Due.end();
    }

    private static void first(HiveLedger x, int kind, int v) {
        if (kind == BLOSSOMS) {
            x.meadow(0, 1, 1);
            x.tend(0, 0, 0, ADD, v);
        } else {
            x.lay(0, kind, 1);
            x.put(0, kind, 0, v);
        }
    }

    private static int seen(HiveLedger x, int kind) {
        return kind == BLOSSOMS ? x.see(0, 0, 0) : x.look(0, kind, 0);
    }

    private static void puts(int row, int v, int want) {
        HiveLedger x = new HiveLedger();
        x.lay(0, row, 1);
        Due.due("put of " + v + " in row " + row, x.put(0, row, 0, v), 0);
        Due.due("row " + row + " that got " + v, x.look(0, row, 0), want);
    }

    private static void turns(int kind, int is, int how, int v, int want) {
        HiveLedger x = new HiveLedger();
        first(x, kind, is);
        String call = "kind " + kind + " of " + is + ", how " + how + ", v " + v;
        int fault = kind == BLOSSOMS ? x.tend(0, 0, 0, how, v) : x.turn(0, kind, 0, how, v);
        Due.due("the fault of " + call, fault, 0);
        Due.due(call, seen(x, kind), want);
    }

    /** 'MARKS (0 .. 65535)' */
    private static void marksAreZeroTo65535() {
        puts(Due.MARKS, 0, 0);
        puts(Due.MARKS, 65535, 65535);
        puts(Due.MARKS, 65536, 0);
        puts(Due.MARKS, 65537, 1);
        puts(Due.MARKS, -1, 65535);
        puts(Due.MARKS, -65536, 0);
        puts(Due.MARKS, 32768, 32768);
        puts(Due.MARKS, Due.MAX, 65535);
        puts(Due.MARKS, Due.MIN, 0);
    }

    /** 'HEATS (-32768 .. 32767)' */
    private static void heatsAreMinus32768To32767() {
        puts(Due.HEATS, 32767, 32767);
        puts(Due.HEATS, 32768, -32768);
        puts(Due.HEATS, -32768, -32768);
        puts(Due.HEATS, -32769, 32767);
        puts(Due.HEATS, 65535, -1);
        puts(Due.HEATS, 65536, 0);
        puts(Due.HEATS, Due.MAX, -1);
        puts(Due.HEATS, Due.MIN, 0);
    }

    /** 'SWARMS (0 or 1)', 'of SWARMS whether it is not 0' */
    private static void swarmsAreZeroOrOne() {
        puts(Due.SWARMS, 0, 0);
        for (int v : new int[] {1, 2, -1, 256, 65536, Due.MAX, Due.MIN}) {
            puts(Due.SWARMS, v, 1);
        }
    }

    /** 'MITES (-128 .. 127)' */
    private static void mitesAreMinus128To127() {
        puts(Due.MITES, 127, 127);
        puts(Due.MITES, 128, -128);
        puts(Due.MITES, -128, -128);
        puts(Due.MITES, -129, 127);
        puts(Due.MITES, 255, -1);
        puts(Due.MITES, 256, 0);
        puts(Due.MITES, Due.MAX, -1);
        puts(Due.MITES, Due.MIN, 0);
    }

    /** 'BLOSSOMS: ints', 'so do BLOSSOMS, all 32' */
    private static void blossomsAreInts() {
        for (int v : new int[] {65536, -65537, Due.MAX, Due.MIN}) {
            turns(BLOSSOMS, 0, ADD, v, v);
            turns(BLOSSOMS, 0, OR, v, v);
        }
    }

    /** 'x + v', 'it wraps' */
    private static void plusWraps() {
        turns(Due.MARKS, 65535, ADD, 1, 0);
        turns(Due.MARKS, 65535, ADD, Due.MAX, 65534);
        turns(Due.HEATS, 32767, ADD, 1, -32768);
        turns(Due.HEATS, 1, ADD, Due.MAX, 0);
        turns(Due.MITES, 127, ADD, 1, -128);
        turns(Due.MITES, -128, ADD, Due.MIN, -128);
        turns(BLOSSOMS, Due.MAX, ADD, 1, Due.MIN);
        turns(BLOSSOMS, Due.MIN, ADD, Due.MIN, 0);
    }

    /** 'x - v', 'it wraps' */
    private static void minusWraps() {
        turns(Due.MARKS, 0, SUBTRACT, 1, 65535);
        turns(Due.HEATS, -32768, SUBTRACT, 1, 32767);
        turns(Due.MITES, -128, SUBTRACT, 1, 127);
        turns(BLOSSOMS, Due.MIN, SUBTRACT, 1, Due.MAX);
        turns(BLOSSOMS, 0, SUBTRACT, Due.MIN, Due.MIN);
        turns(Due.MITES, 0, SUBTRACT, Due.MIN, 0);
    }

    /** 'x * v', 'it wraps' */
    private static void timesWraps() {
        turns(Due.MARKS, 65535, MULTIPLY, 65535, 1);
        turns(Due.MARKS, 256, MULTIPLY, 256, 0);
        turns(Due.HEATS, -32768, MULTIPLY, -1, -32768);
        turns(Due.HEATS, 181, MULTIPLY, 182, -32594);
        turns(Due.MITES, -128, MULTIPLY, -1, -128);
        turns(Due.MITES, 127, MULTIPLY, 127, 1);
        turns(BLOSSOMS, Due.MIN, MULTIPLY, -1, Due.MIN);
        turns(BLOSSOMS, 65536, MULTIPLY, 65536, 0);
        turns(BLOSSOMS, Due.MAX, MULTIPLY, Due.MAX, 1);
    }

    /** 'x / v (towards 0)' */
    private static void dividedTowardsZero() {
        for (int kind : new int[] {Due.HEATS, Due.MITES, BLOSSOMS}) {
            turns(kind, 7, DIVIDE, 2, 3);
            turns(kind, -7, DIVIDE, 2, -3);
            turns(kind, 7, DIVIDE, -2, -3);
            turns(kind, -7, DIVIDE, -2, 3);
            turns(kind, -1, DIVIDE, 2, 0);
            turns(kind, 1, DIVIDE, Due.MIN, 0);
        }
        turns(Due.MARKS, 7, DIVIDE, -2, 65533);
        turns(Due.MARKS, 65535, DIVIDE, 65536, 0);
        turns(Due.MARKS, 65535, DIVIDE, 65535, 1);
    }

    /** The least number by -1 is one more than the greatest: 'x is an int, so is what comes of it'. */
    private static void dividedWraps() {
        turns(BLOSSOMS, Due.MIN, DIVIDE, -1, Due.MIN);
        turns(BLOSSOMS, Due.MIN, DIVIDE, 1, Due.MIN);
        turns(BLOSSOMS, Due.MIN, DIVIDE, Due.MIN, 1);
        turns(BLOSSOMS, Due.MIN, REST, -1, 0);
        turns(Due.HEATS, -32768, DIVIDE, -1, -32768);
        turns(Due.MITES, -128, DIVIDE, -1, -128);
        turns(Due.MARKS, 65535, DIVIDE, -1, 1);
    }

    /** 'x % v (the rest, with the sign of x)' */
    private static void restHasTheSignOfX() {
        for (int kind : new int[] {Due.HEATS, Due.MITES, BLOSSOMS}) {
            turns(kind, 7, REST, 3, 1);
            turns(kind, -7, REST, 3, -1);
            turns(kind, 7, REST, -3, 1);
            turns(kind, -7, REST, -3, -1);
            turns(kind, -6, REST, 3, 0);
            turns(kind, -7, REST, Due.MIN, -7);
            turns(kind, -7, REST, Due.MAX, -7);
        }
        turns(Due.MARKS, 65535, REST, -65536, 65535);
        turns(Due.MARKS, 65535, REST, 65535, 0);
    }

    /** 'by v's lowest five bits' */
    private static void shiftsAreByTheLowestFiveBits() {
        int[] byNone = {0, 32, 64, -32, Due.MIN};
        int[] byOne = {1, 33, -31, Due.MIN + 1};
        int[] byThirtyOne = {31, 63, -1, Due.MAX};
        for (int how = LEFT; how <= RIGHT_WITHOUT_SIGN; how++) {
            for (int v : byNone) {
                turns(BLOSSOMS, 12345, how, v, 12345);
                turns(Due.MITES, 77, how, v, 77);
            }
            for (int v : byOne) {
                turns(BLOSSOMS, 40, how, v, how == LEFT ? 80 : 20);
                turns(Due.MARKS, 40, how, v, how == LEFT ? 80 : 20);
            }
        }
        for (int v : byThirtyOne) {
            turns(BLOSSOMS, 1, LEFT, v, Due.MIN);
            turns(BLOSSOMS, Due.MIN, RIGHT_WITH_SIGN, v, -1);
            turns(BLOSSOMS, Due.MIN, RIGHT_WITHOUT_SIGN, v, 1);
            turns(Due.HEATS, -1, RIGHT_WITHOUT_SIGN, v, 1);
        }
    }

    /** 'x shifted left', 'the cell gets its lowest 16, 16, 8 bits' */
    private static void shiftLeftDropsWhatDoesNotFit() {
        turns(Due.MARKS, 65535, LEFT, 15, 32768);
        turns(Due.MARKS, 65535, LEFT, 16, 0);
        turns(Due.HEATS, 1, LEFT, 15, -32768);
        turns(Due.HEATS, -1, LEFT, 16, 0);
        turns(Due.MITES, 1, LEFT, 7, -128);
        turns(Due.MITES, -1, LEFT, 8, 0);
        turns(BLOSSOMS, 3, LEFT, 31, Due.MIN);
    }

    /** '6 right with its sign' */
    private static void shiftRightKeepsTheSign() {
        turns(Due.HEATS, -32768, RIGHT_WITH_SIGN, 15, -1);
        turns(Due.HEATS, -3, RIGHT_WITH_SIGN, 1, -2);
        turns(Due.MITES, -128, RIGHT_WITH_SIGN, 7, -1);
        turns(Due.MARKS, 65535, RIGHT_WITH_SIGN, 1, 32767);
        turns(Due.MARKS, 65535, RIGHT_WITH_SIGN, 16, 0);
        turns(BLOSSOMS, -1, RIGHT_WITH_SIGN, 31, -1);
    }

    /** '7 right without it' and 'x is an int': the bits that come in from above are the int's. */
    private static void shiftRightWithoutSignIsOfTheInt() {
        turns(Due.HEATS, -1, RIGHT_WITHOUT_SIGN, 1, -1);
        turns(Due.HEATS, -1, RIGHT_WITHOUT_SIGN, 16, -1);
        turns(Due.HEATS, -1, RIGHT_WITHOUT_SIGN, 17, 32767);
        turns(Due.MITES, -1, RIGHT_WITHOUT_SIGN, 24, -1);
        turns(Due.MITES, -1, RIGHT_WITHOUT_SIGN, 25, 127);
        turns(Due.MARKS, 65535, RIGHT_WITHOUT_SIGN, 1, 32767);
        turns(Due.MARKS, 65535, RIGHT_WITHOUT_SIGN, 16, 0);
        turns(BLOSSOMS, -1, RIGHT_WITHOUT_SIGN, 1, Due.MAX);
    }

    /** '8 x and v   9 x or v   10 x exclusive or v' */
    private static void bitsOfAllThirtyTwo() {
        turns(BLOSSOMS, -1, AND, Due.MIN, Due.MIN);
        turns(BLOSSOMS, Due.MAX, OR, Due.MIN, -1);
        turns(BLOSSOMS, -1, EXCLUSIVE_OR, Due.MAX, Due.MIN);
        turns(Due.MARKS, 65535, AND, -65536, 0);
        turns(Due.MARKS, 0, OR, -1, 65535);
        turns(Due.MARKS, 1, EXCLUSIVE_OR, -1, 65534);
        turns(Due.HEATS, 0, OR, 32768, -32768);
        turns(Due.HEATS, -1, EXCLUSIVE_OR, 32768, 32767);
        turns(Due.MITES, 0, OR, 128, -128);
        turns(Due.MITES, -1, EXCLUSIVE_OR, 128, 127);
        turns(Due.MITES, -1, AND, 256, 0);
    }

    /** '11 x + 1   12 x - 1': v says nothing, be it 0. */
    private static void oneMoreAndOneLessLeaveVOut() {
        for (int v : new int[] {0, 1, 5, -1, Due.MIN, Due.MAX}) {
            turns(Due.MARKS, 65535, ONE_MORE, v, 0);
            turns(Due.MARKS, 0, ONE_LESS, v, 65535);
            turns(Due.HEATS, 32767, ONE_MORE, v, -32768);
            turns(Due.HEATS, -32768, ONE_LESS, v, 32767);
            turns(Due.MITES, 127, ONE_MORE, v, -128);
            turns(Due.MITES, -128, ONE_LESS, v, 127);
            turns(BLOSSOMS, Due.MAX, ONE_MORE, v, Due.MIN);
            turns(BLOSSOMS, Due.MIN, ONE_LESS, v, Due.MAX);
        }
    }

    /** 'MARKS, HEATS and MITES have all of them .. so do BLOSSOMS' */
    private static void allOperationsOfWholeNumbers() {
        int[] sevenByTwo = {9, 5, 14, 3, 1, 28, 1, 1, 2, 7, 5, 8, 6};
        for (int how = ADD; how <= ONE_LESS; how++) {
            for (int kind : new int[] {Due.MARKS, Due.HEATS, Due.MITES, BLOSSOMS}) {
                turns(kind, 7, how, 2, sevenByTwo[how]);
            }
        }
    }

    /** 'SWARMS has 8 to 10, v being whether it is not 0' */
    private static void swarmsTakeVAsWhetherItIsNotZero() {
        for (int v : new int[] {1, 2, -2, 256, Due.MIN, Due.MAX}) {
            turns(Due.SWARMS, 1, AND, v, 1);
            turns(Due.SWARMS, 0, AND, v, 0);
            turns(Due.SWARMS, 1, OR, v, 1);
            turns(Due.SWARMS, 0, OR, v, 1);
            turns(Due.SWARMS, 1, EXCLUSIVE_OR, v, 0);
            turns(Due.SWARMS, 0, EXCLUSIVE_OR, v, 1);
        }
        turns(Due.SWARMS, 1, AND, 0, 0);
        turns(Due.SWARMS, 1, OR, 0, 1);
        turns(Due.SWARMS, 0, OR, 0, 0);
        turns(Due.SWARMS, 1, EXCLUSIVE_OR, 0, 1);
    }
}

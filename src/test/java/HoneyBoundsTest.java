/** The bounds of HONEY: its bytes, its quarters, what is rounded, and what would be infinite. */
public final class HoneyBoundsTest {
    private static final int ADD = 0;
    private static final int SUBTRACT = 1;
    private static final int MULTIPLY = 2;
    private static final int DIVIDE = 3;
    private static final int REST = 4;
    private static final int ONE_MORE = 11;
    private static final int ONE_LESS = 12;

    private static final int GREATEST = 0x7F7FFFFF;
    private static final int LEAST = 0xFF7FFFFF;
    private static final int MINUS_ZERO = Due.MIN;
    private static final int MUCH = 6;

    public static void main(String[] args) {
        bytesAsIeeeHasThem();
        quartersAreRoundedFirst();
        sumsAreRoundedToTheNearest();
        oneMoreAndOneLessGoByOne();
        productsAreRounded();
        quotientsAreRounded();
        restsHaveTheSignOfX();
        restsOfMultiplesAreZero();
        restsBesideMultiples();
        restsAreExact();
        restsOfTheGreatest();
        zerosHaveSigns();
        smallNumbers();
        belowTheLeastThereIsZero();
        neverInfinite();
        neverInfiniteBelowZero();
        productsThatRoundToTheGreatest();
        productsThatRoundBeyondTheGreatest();
        quotientsBeyondTheGreatest();
        sumsNeverReachBeyondTheGreatest();
        muchChangesNothing();
        Due.end();
    }

    private static HiveLedger honeyOf(int quarters) {
        HiveLedger x = new HiveLedger();
        x.lay(0, Due.HONEY, 1);
        x.put(0, Due.HONEY, 0, quarters);
        return x;
    }

    private static int bytes(HiveLedger x) {
        return x.look(0, Due.HONEY, 0);
    }

    private static void go(HiveLedger x, int how, int v) {
        Due.due("HONEY, how " + how + ", v " + v, x.turn(0, Due.HONEY, 0, how, v), 0);
    }

    private static void turns(int quarters, int how, int v, float want) {
        HiveLedger x = honeyOf(quarters);
        go(x, how, v);
        Due.dueHoney(quarters + " quarters, how " + how + ", v " + v, bytes(x), want);
    }

    private static void times(HiveLedger x, int doublings) {
        for (int i = 0; i < doublings; i++) {
            go(x, MULTIPLY, 8);
        }
    }

    private static void halves(HiveLedger x, int halvings) {
        for (int i = 0; i < halvings; i++) {
            go(x, DIVIDE, 8);
        }
    }

    private static HiveLedger greatest() {
        HiveLedger x = honeyOf(0xFFFFFF);
        times(x, 106);
        Due.due("the greatest", bytes(x), GREATEST);
        return x;
    }

    private static HiveLedger least() {
        HiveLedger x = honeyOf(-0xFFFFFF);
        times(x, 106);
        Due.due("the least", bytes(x), LEAST);
        return x;
    }

    /** 'of HONEY its four bytes as an int' */
    private static void bytesAsIeeeHasThem() {
        Due.due("bytes of 0", bytes(honeyOf(0)), 0);
        Due.due("bytes of 1/4", bytes(honeyOf(1)), 0x3E800000);
        Due.due("bytes of 1", bytes(honeyOf(4)), 0x3F800000);
        Due.due("bytes of -1", bytes(honeyOf(-4)), 0xBF800000);
        Due.due("bytes of 3/4", bytes(honeyOf(3)), 0x3F400000);
        Due.due("bytes of 2", bytes(honeyOf(8)), 0x40000000);
        Due.due("bytes of 16777215/4", bytes(honeyOf(16777215)), 0x4A7FFFFF);
        Due.due("bytes of 16777216/4", bytes(honeyOf(16777216)), 0x4A800000);
    }

    /** 'v is a number of QUARTERS, made to a number of four bytes and then by 4' */
    private static void quartersAreRoundedFirst() {
        Due.due("16777217 to the even one below", bytes(honeyOf(16777217)), 0x4A800000);
        Due.due("16777219 to the even one above", bytes(honeyOf(16777219)), 0x4A800002);
        Due.due("-16777217", bytes(honeyOf(-16777217)), 0xCA800000);
        Due.due("MAX", bytes(honeyOf(Due.MAX)), 0x4E000000);
        Due.due("MAX - 64", bytes(honeyOf(Due.MAX - 64)), 0x4DFFFFFF);
        Due.due("MAX - 63", bytes(honeyOf(Due.MAX - 63)), 0x4E000000);
        Due.due("MIN", bytes(honeyOf(Due.MIN)), 0xCE000000);
        turns(0, ADD, 16777217, 4194304f);
        turns(0, SUBTRACT, 16777219, -4194305f);
        turns(4, MULTIPLY, 16777217, 4194304f);
        turns(16777216, DIVIDE, 16777217, 1f);
        turns(16777216, REST, 16777217, 0f);
    }

    /** 'each is rounded to such a number' */
    private static void sumsAreRoundedToTheNearest() {
        int great = 1 << 26;
        turns(great, ADD, 3, 16777216f);
        turns(great, ADD, 4, 16777216f);
        turns(great, ADD, 5, 16777218f);
        turns(great + 8, ADD, 4, 16777220f);
        turns(great, SUBTRACT, 1, 16777216f);
        turns(great, SUBTRACT, 2, 16777216f);
        turns(great, SUBTRACT, 3, 16777215f);
        turns(-great, SUBTRACT, 4, -16777216f);
        turns(-great, SUBTRACT, 5, -16777218f);
    }

    /** '11 and 12 go by 1': by four quarters, whatever v is. */
    private static void oneMoreAndOneLessGoByOne() {
        for (int v : new int[] {0, 1, 4, -9, Due.MIN, Due.MAX}) {
            turns(0, ONE_MORE, v, 1f);
            turns(0, ONE_LESS, v, -1f);
            turns(3, ONE_LESS, v, -0.25f);
            turns(1 << 26, ONE_MORE, v, 16777216f);
            turns((1 << 26) + 8, ONE_MORE, v, 16777220f);
            turns(-(1 << 26), ONE_LESS, v, -16777216f);
        }
    }

    private static void productsAreRounded() {
        turns(0xFFFFFF, MULTIPLY, 0xFFFFFF, 1.7592184E13f);
        turns(16777213, MULTIPLY, 5, 5242879f);
        turns(3, MULTIPLY, 3, 0.5625f);
        turns(Due.MIN, MULTIPLY, Due.MIN, 288230376151711744f);
    }

    /** HONEY's / is no whole number: it is 'rounded to such a number', too. */
    private static void quotientsAreRounded() {
        turns(4, DIVIDE, 12, 0.33333334f);
        turns(-4, DIVIDE, 12, -0.33333334f);
        turns(8, DIVIDE, 12, 0.6666667f);
        turns(4, DIVIDE, 40, 0.1f);
        turns(-7, DIVIDE, 2, -3.5f);
        turns(1, DIVIDE, Due.MIN, -4.656613E-10f);
    }

    /** 'the rest, with the sign of x' */
    private static void restsHaveTheSignOfX() {
        turns(7, REST, 3, 0.25f);
        turns(-7, REST, 3, -0.25f);
        turns(7, REST, -3, 0.25f);
        turns(-7, REST, -3, -0.25f);
        turns(2, REST, 3, 0.5f);
        turns(-2, REST, 3, -0.5f);
        turns(3, REST, 3, 0f);
        turns(-3, REST, 3, -0f);
        turns(-3, REST, -3, -0f);
        turns(3, REST, -3, 0f);
        turns(1, REST, Due.MIN, 0.25f);
    }

    /** Where v goes into x without a rest, be it by doublings alone, nothing is left. */
    private static void restsOfMultiplesAreZero() {
        for (int v : new int[] {1, 3, -3, 5, 1000003}) {
            for (int times : new int[] {1, 2, 3, 4, 7, 8, 9, 15, 16}) {
                turns(v * times, REST, v, v < 0 ? -0f : 0f);
                turns(-v * times, REST, v, v < 0 ? 0f : -0f);
            }
        }
    }

    /** .. and a quarter to either side of such a multiple. */
    private static void restsBesideMultiples() {
        for (int times : new int[] {1, 2, 3, 4, 7, 8, 9, 15, 16}) {
            turns(5 * times + 1, REST, 5, 0.25f);
            turns(5 * times - 1, REST, 5, 1f);
            turns(-5 * times - 1, REST, 5, -0.25f);
            turns(-5 * times + 1, REST, 5, -1f);
        }
    }

    private static void restsAreExact() {
        HiveLedger x = honeyOf(4);
        go(x, DIVIDE, 12);
        go(x, REST, 1);
        Due.dueHoney("1/3 % 1/4", bytes(x), 0.083333343f);
        x = honeyOf(Due.MAX);
        go(x, MULTIPLY, 1000003);
        go(x, REST, 7);
        Due.dueHoney("a great number % 7/4", bytes(x), (536870912f * 250000.75f) % 1.75f);
    }

    private static void restsOfTheGreatest() {
        HiveLedger x = greatest();
        go(x, REST, 3);
        Due.dueHoney("the greatest % 3/4", bytes(x), Float.MAX_VALUE % 0.75f);
        x = least();
        go(x, REST, 1000003);
        Due.dueHoney("the least % 1000003/4", bytes(x), -Float.MAX_VALUE % 250000.75f);
        x = least();
        go(x, REST, 1);
        Due.due("the least % 1/4", bytes(x), MINUS_ZERO);
        x = greatest();
        go(x, REST, Due.MIN);
        Due.due("the greatest % MIN/4", bytes(x), 0);
    }

    /** Numbers 'as IEEE 754 has them' have two zeros, of which the bytes tell. */
    private static void zerosHaveSigns() {
        turns(0, MULTIPLY, -1, -0f);
        turns(-1, MULTIPLY, 0, -0f);
        turns(0, DIVIDE, -1, -0f);
        turns(4, ONE_LESS, 0, 0f);
        turns(-4, ONE_MORE, 0, 0f);
        turns(-3, ADD, 3, 0f);
        HiveLedger x = honeyOf(-3);
        go(x, REST, 3);
        Due.due("bytes of -0", bytes(x), MINUS_ZERO);
        go(x, SUBTRACT, 0);
        Due.due("-0 - 0", bytes(x), MINUS_ZERO);
        go(x, REST, 3);
        Due.due("-0 % 3/4", bytes(x), MINUS_ZERO);
        go(x, MULTIPLY, 3);
        Due.due("-0 * 3/4", bytes(x), MINUS_ZERO);
        go(x, ADD, 0);
        Due.due("-0 + 0", bytes(x), 0);
    }

    /** The numbers below 2^-126 have fewer bits, down to one. */
    private static void smallNumbers() {
        HiveLedger x = honeyOf(4);
        halves(x, 126);
        Due.due("2^-126", bytes(x), 0x00800000);
        halves(x, 1);
        Due.due("2^-127", bytes(x), 0x00400000);
        halves(x, 22);
        Due.due("2^-149", bytes(x), 1);
        times(x, 23);
        Due.due("2^-126 again", bytes(x), 0x00800000);
        x = honeyOf(12);
        halves(x, 149);
        Due.due("3 * 2^-149", bytes(x), 3);
        halves(x, 1);
        Due.due("3 * 2^-150, to the even one", bytes(x), 2);
        x = honeyOf(0xFFFFFF);
        halves(x, 148);
        Due.due("(2^24 - 1) * 2^-150, to the even one", bytes(x), 0x00800000);
    }

    private static void belowTheLeastThereIsZero() {
        HiveLedger x = honeyOf(4);
        halves(x, 149);
        halves(x, 1);
        Due.due("2^-150 is rounded to 0", bytes(x), 0);
        x = honeyOf(-4);
        halves(x, 149);
        Due.due("-2^-149", bytes(x), 0x80000001);
        go(x, REST, 1);
        Due.due("-2^-149 % 1/4", bytes(x), 0x80000001);
        go(x, MULTIPLY, 3);
        Due.due("-2^-149 * 3/4", bytes(x), 0x80000001);
        go(x, MULTIPLY, 2);
        Due.due("-2^-149 * 1/2 is rounded to -0", bytes(x), MINUS_ZERO);
    }

    /** 'never infinite', '6 MUCH: HONEY would be infinite' */
    private static void neverInfinite() {
        HiveLedger x = greatest();
        for (int v : new int[] {5, 8, -5, -8, Due.MAX, Due.MIN}) {
            Due.due("the greatest by " + v, x.turn(0, Due.HONEY, 0, MULTIPLY, v), MUCH);
            Due.due("fault()", x.fault(), MUCH);
            Due.due("stays", bytes(x), GREATEST);
        }
        for (int v : new int[] {4, 0}) {
            go(x, MULTIPLY, v);
        }
        Due.due("by 1 and by 0", bytes(x), 0);
    }

    private static void neverInfiniteBelowZero() {
        HiveLedger x = least();
        for (int v : new int[] {5, 8, -5, -8, Due.MAX, Due.MIN}) {
            Due.due("the least by " + v, x.turn(0, Due.HONEY, 0, MULTIPLY, v), MUCH);
            Due.due("stays", bytes(x), LEAST);
        }
        go(x, MULTIPLY, -4);
        Due.due("by -1", bytes(x), GREATEST);
    }

    /** (2^24 - 2j) * (2^23 + j) is 2^47 - 2jj, and the greatest's bits end 2^23 below 2^47. */
    private static HiveLedger nearTheGreatest(int j) {
        HiveLedger x = honeyOf((1 << 24) - 2 * j);
        times(x, 85);
        return x;
    }

    private static void productsThatRoundToTheGreatest() {
        for (int j : new int[] {1450, 2000, 2047}) {
            HiveLedger x = nearTheGreatest(j);
            go(x, MULTIPLY, (1 << 23) + j);
            Due.due("is rounded to the greatest", bytes(x), GREATEST);
            x = nearTheGreatest(j);
            go(x, MULTIPLY, -(1 << 23) - j);
            Due.due("is rounded to the least", bytes(x), LEAST);
        }
    }

    private static void productsThatRoundBeyondTheGreatest() {
        for (int j : new int[] {1, 1400, 1448}) {
            HiveLedger x = nearTheGreatest(j);
            Due.due("is rounded beyond", x.turn(0, Due.HONEY, 0, MULTIPLY, (1 << 23) + j), MUCH);
            Due.due("is rounded beyond", x.turn(0, Due.HONEY, 0, MULTIPLY, -(1 << 23) - j), MUCH);
        }
        // half between the greatest and what would be the next one
        HiveLedger x = honeyOf(18631 << 9);
        times(x, 85);
        Due.due("the half goes beyond", x.turn(0, Due.HONEY, 0, MULTIPLY, 1801 << 13), MUCH);
    }

    private static void quotientsBeyondTheGreatest() {
        HiveLedger x = greatest();
        for (int v : new int[] {1, 2, 3, -1, -3}) {
            Due.due("the greatest by " + v, x.turn(0, Due.HONEY, 0, DIVIDE, v), MUCH);
            Due.due("stays", bytes(x), GREATEST);
        }
        go(x, DIVIDE, -4);
        Due.due("by -1", bytes(x), LEAST);
        go(x, DIVIDE, 5);
        Due.dueHoney("by 5/4", bytes(x), -Float.MAX_VALUE / 1.25f);
    }

    /** v's greatest is far too small beside the greatest HONEY: what comes is rounded back to it. */
    private static void sumsNeverReachBeyondTheGreatest() {
        HiveLedger x = greatest();
        go(x, ADD, Due.MAX);
        go(x, SUBTRACT, Due.MIN);
        go(x, ONE_MORE, 0);
        Due.due("the greatest and more", bytes(x), GREATEST);
        x = least();
        go(x, ADD, Due.MIN);
        go(x, SUBTRACT, Due.MAX);
        go(x, ONE_LESS, 0);
        Due.due("the least and less", bytes(x), LEAST);
    }

    private static void muchChangesNothing() {
        HiveLedger x = honeyOf(4);
        times(x, 127);
        Due.due("2^127", bytes(x), 0x7F000000);
        Due.due("2^128", x.turn(0, Due.HONEY, 0, MULTIPLY, 8), MUCH);
        Due.due("2^127 still", bytes(x), 0x7F000000);
        go(x, MULTIPLY, 7);
        Due.due("2^127 * 7/4", bytes(x), 0x7F600000);
        Due.due("acts with MUCH", x.count(MUCH), 1);
    }
}

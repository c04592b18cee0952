/** Promise 8: operations on the cells of rows. */
public final class TurnTest {
    private static final int[] NUMBERS = {0, 1, -1, 2, -2, 3, 7, -7, 31, 32, 33, 100, 127, 128, -128, 255, 256,
        32767, 32768, -32768, 65535, 65536, 1000003, -1000003, Due.MIN, Due.MIN + 1, Due.MAX};

    public static void main(String[] args) {
        for (int how = 0; how <= 12; how++) {
            for (int v : NUMBERS) {
                HiveLedger x = newLedger(24);
                for (int first : NUMBERS) {
                    wholeRows(x, first, how, v);
                }
            }
            swarms(how);
        }
        honey();
        honeyRests();
        honeyZeros();
        honeySmall();
        honeyMuch();
        missingOperations();
        faults();
        sharedCells();
        Due.end();
    }

    private static HiveLedger newLedger(int cells) {
        HiveLedger x = new HiveLedger();
        for (int row = 0; row < 5; row++) {
            x.lay(0, row, cells);
        }
        return x;
    }

    static long whole(int x, int how, int v) {
        switch (how) {
            case 0: return (int) ((long) x + v);
            case 1: return (int) ((long) x - v);
            case 2: return (int) ((long) x * v);
            case 3: return (int) ((long) x / v);
            case 4: return (long) x % v;
            case 5: return (int) ((long) x << (v & 31));
            case 6: return (long) x >> (v & 31);
            case 7: return (int) ((x & 0xFFFFFFFFL) >> (v & 31));
            case 8: return x & v;
            case 9: return x | v;
            case 10: return x ^ v;
            case 11: return (int) ((long) x + 1);
            default: return (int) ((long) x - 1);
        }
    }

    private static void wholeRows(HiveLedger x, int first, int how, int v) {
        boolean zero = v == 0 && (how == 3 || how == 4);
        String call = "of " + first + ", how " + how + ", v " + v;
        int mark = (char) first;
        x.put(0, Due.MARKS, 5, first);
        Due.due("turn of MARKS " + call, x.turn(0, Due.MARKS, 5, how, v), zero ? 5 : 0);
        Due.due("MARKS " + call, x.look(0, Due.MARKS, 5), zero ? mark : (char) whole(mark, how, v));
        int heat = (short) first;
        x.put(0, Due.HEATS, 5, first);
        Due.due("turn of HEATS " + call, x.turn(0, Due.HEATS, 5, how, v), zero ? 5 : 0);
        Due.due("HEATS " + call, x.look(0, Due.HEATS, 5), zero ? heat : (short) whole(heat, how, v));
        int mite = (byte) first;
        x.put(0, Due.MITES, 5, first);
        Due.due("turn of MITES " + call, x.turn(0, Due.MITES, 5, how, v), zero ? 5 : 0);
        Due.due("MITES " + call, x.look(0, Due.MITES, 5), zero ? mite : (byte) whole(mite, how, v));
        Due.due("the cell ahead", x.look(0, Due.MITES, 4), 0);
    }

    private static void swarms(int how) {
        HiveLedger x = newLedger(3);
        for (int first = 0; first <= 1; first++) {
            for (int v : new int[] {0, 1, 2, -1, 256, Due.MIN, Due.MAX}) {
                String call = "SWARMS of " + first + ", how " + how + ", v " + v;
                boolean is = first != 0;
                boolean with = v != 0;
                boolean want = how == 8 ? is & with : how == 9 ? is | with : how == 10 ? is ^ with : is;
                x.put(0, Due.SWARMS, 2, first);
                Due.due("turn of " + call, x.turn(0, Due.SWARMS, 2, how, v), how >= 8 && how <= 10 ? 0 : 7);
                Due.due(call, x.look(0, Due.SWARMS, 2), want ? 1 : 0);
            }
        }
    }

    private static float honeyOf(float x, int how, int v) {
        float by = (float) v / 4f;
        switch (how) {
            case 0: return x + by;
            case 1: return x - by;
            case 2: return x * by;
            case 3: return x / by;
            case 4: return x % by;
            case 11: return x + 1f;
            default: return x - 1f;
        }
    }

    private static void honey() {
        for (int how : new int[] {0, 1, 2, 3, 4, 11, 12}) {
            for (int v : NUMBERS) {
                boolean zero = v == 0 && (how == 3 || how == 4);
                HiveLedger x = newLedger(2);
                for (int first : NUMBERS) {
                    String call = "HONEY of " + first + ", how " + how + ", v " + v;
                    float is = (float) first / 4f;
                    x.put(0, Due.HONEY, 1, first);
                    Due.due("turn of " + call, x.turn(0, Due.HONEY, 1, how, v), zero ? 5 : 0);
                    Due.dueHoney(call, x.look(0, Due.HONEY, 1), zero ? is : honeyOf(is, how, v));
                }
            }
        }
    }

    private static void honeyRests() {
        int[] divisors = {1, -1, 3, 5, -7, 1000003, 16777217, -123456789, Due.MAX, Due.MIN};
        for (int v : divisors) {
            HiveLedger x = newLedger(2);
            float is = 1999999 / 4f;
            x.put(0, Due.HONEY, 0, 1999999);
            for (int i = 0; i < 24; i++) {
                int by = i % 2 == 0 ? 123 : -97;
                float next = is * (by / 4f);
                if (Float.isInfinite(next)) {
                    break;
                }
                is = next;
                x.turn(0, Due.HONEY, 0, 2, by);
                Due.dueHoney("a great product", x.look(0, Due.HONEY, 0), is);
                Due.due("turn to the rest", x.turn(0, Due.HONEY, 0, 4, v), 0);
                float rest = is % ((float) v / 4f);
                Due.dueHoney("the rest of " + is + " by " + v, x.look(0, Due.HONEY, 0), rest);
                if (rest != 0) {
                    is = rest;
                } else {
                    is = 77777777 / 4f;
                    x.put(0, Due.HONEY, 0, 77777777);
                }
            }
            greatRest(v);
        }
    }

    private static void greatRest(int v) {
        for (int grown = 1; grown <= 4; grown++) {
            HiveLedger x = newLedger(1);
            float is = -1431655765 / 4f;
            x.put(0, Due.HONEY, 0, -1431655765);
            for (int i = 1; i < grown; i++) {
                is = is * (1234567891 / 4f);
                x.turn(0, Due.HONEY, 0, 2, 1234567891);
            }
            Due.dueHoney("the great one", x.look(0, Due.HONEY, 0), is);
            Due.due("turn of the great one", x.turn(0, Due.HONEY, 0, 4, v), 0);
            Due.dueHoney("the rest of the great " + is + " by " + v, x.look(0, Due.HONEY, 0), is % ((float) v / 4f));
        }
    }

    private static void honeyZeros() {
        HiveLedger x = newLedger(1);
        x.turn(0, Due.HONEY, 0, 2, -4);
        Due.due("0 * -1 is -0", x.look(0, Due.HONEY, 0), Due.MIN);
        x.turn(0, Due.HONEY, 0, 4, 3);
        Due.due("-0 % 3/4 is -0", x.look(0, Due.HONEY, 0), Due.MIN);
        x.turn(0, Due.HONEY, 0, 1, 0);
        Due.due("-0 - 0 is -0", x.look(0, Due.HONEY, 0), Due.MIN);
        x.turn(0, Due.HONEY, 0, 3, -5);
        Due.due("-0 / -5/4 is 0", x.look(0, Due.HONEY, 0), 0);
        x.turn(0, Due.HONEY, 0, 3, -5);
        Due.due("0 / -5/4 is -0", x.look(0, Due.HONEY, 0), Due.MIN);
        x.turn(0, Due.HONEY, 0, 0, 0);
        Due.due("-0 + 0 is 0", x.look(0, Due.HONEY, 0), 0);
        x.put(0, Due.HONEY, 0, -6);
        x.turn(0, Due.HONEY, 0, 4, 2);
        Due.due("-3/2 % 1/2 is -0", x.look(0, Due.HONEY, 0), Due.MIN);
        x.put(0, Due.HONEY, 0, 6);
        x.turn(0, Due.HONEY, 0, 4, -2);
        Due.due("3/2 % -1/2 is 0", x.look(0, Due.HONEY, 0), 0);
        x.put(0, Due.HONEY, 0, 4);
        x.turn(0, Due.HONEY, 0, 12, 99);
        Due.due("1 less 1 is 0", x.look(0, Due.HONEY, 0), 0);
    }

    private static void honeySmall() {
        for (int v : new int[] {8, -12, 1000003, Due.MIN}) {
            HiveLedger x = newLedger(1);
            float is = 1234567 / 4f;
            x.put(0, Due.HONEY, 0, 1234567);
            for (int i = 0; i < 180; i++) {
                is = is / (v / 4f);
                Due.due("turn to smaller", x.turn(0, Due.HONEY, 0, 3, v), 0);
                Due.dueHoney("division " + i + " by " + v, x.look(0, Due.HONEY, 0), is);
            }
            x.turn(0, Due.HONEY, 0, 11, 5);
            Due.dueHoney("and 1", x.look(0, Due.HONEY, 0), is + 1f);
        }
    }

    private static void honeyMuch() {
        for (int sign : new int[] {4, -4}) {
            HiveLedger x = newLedger(1);
            x.put(0, Due.HONEY, 0, sign);
            for (int i = 0; i < 127; i++) {
                Due.due("doubling " + i, x.turn(0, Due.HONEY, 0, 2, 8), 0);
            }
            float is = (sign / 4) * 0x1p127f;
            Due.dueHoney("the greatest power of 2", x.look(0, Due.HONEY, 0), is);
            Due.due("doubled again", x.turn(0, Due.HONEY, 0, 2, 8), 6);
            Due.due("fault()", x.fault(), 6);
            Due.due("by a quarter", x.turn(0, Due.HONEY, 0, 3, 1), 6);
            Due.due("by -2", x.turn(0, Due.HONEY, 0, 2, -8), 6);
            Due.dueHoney("stays", x.look(0, Due.HONEY, 0), is);
            Due.due("by 7/4", x.turn(0, Due.HONEY, 0, 2, 7), 0);
            Due.dueHoney("grows", x.look(0, Due.HONEY, 0), is * 1.75f);
            Due.due("and MAX, rounded away", x.turn(0, Due.HONEY, 0, 0, sign * (Due.MAX / 4)), 0);
            Due.dueHoney("stays", x.look(0, Due.HONEY, 0), is * 1.75f);
            Due.due("one more", x.turn(0, Due.HONEY, 0, 11, 0), 0);
            Due.due("one less", x.turn(0, Due.HONEY, 0, 12, 0), 0);
            Due.due("less itself", x.turn(0, Due.HONEY, 0, 4, 3), 0);
            Due.dueHoney("the rest", x.look(0, Due.HONEY, 0), (is * 1.75f) % 0.75f);
        }
        greatest();
    }

    /** 1.11..1 in binary times 2^127 is the last that is not infinite. */
    private static void greatest() {
        HiveLedger x = newLedger(1);
        x.put(0, Due.HONEY, 0, 0xFFFFFF);
        for (int i = 0; i < 106; i++) {
            Due.due("doubling " + i, x.turn(0, Due.HONEY, 0, 2, 8), 0);
        }
        Due.dueHoney("the greatest", x.look(0, Due.HONEY, 0), Float.MAX_VALUE);
        Due.due("one more", x.turn(0, Due.HONEY, 0, 11, 0), 0);
        Due.due("and MAX", x.turn(0, Due.HONEY, 0, 0, Due.MAX), 0);
        Due.due("less MIN", x.turn(0, Due.HONEY, 0, 1, Due.MIN), 0);
        Due.due("by 5/4", x.turn(0, Due.HONEY, 0, 2, 5), 6);
        Due.due("by 3/4", x.turn(0, Due.HONEY, 0, 3, 3), 6);
        Due.due("by -3/4", x.turn(0, Due.HONEY, 0, 3, -3), 6);
        Due.dueHoney("stays the greatest", x.look(0, Due.HONEY, 0), Float.MAX_VALUE);
        Due.due("by -1", x.turn(0, Due.HONEY, 0, 2, -4), 0);
        Due.dueHoney("the least", x.look(0, Due.HONEY, 0), -Float.MAX_VALUE);
        Due.due("one less", x.turn(0, Due.HONEY, 0, 12, 0), 0);
        Due.dueHoney("stays the least", x.look(0, Due.HONEY, 0), -Float.MAX_VALUE);
    }

    private static void missingOperations() {
        HiveLedger x = new HiveLedger();
        for (int how = 0; how <= 12; how++) {
            boolean swarms = how >= 8 && how <= 10;
            boolean honey = how <= 4 || how >= 11;
            Due.due("7 is ahead of 1: SWARMS, how " + how, x.turn(0, Due.SWARMS, 0, how, 0), swarms ? 1 : 7);
            Due.due("7 is ahead of 1: HONEY, how " + how, x.turn(0, Due.HONEY, 0, how, 0), honey ? 1 : 7);
        }
        x = newLedger(2);
        for (int how = 0; how <= 12; how++) {
            boolean swarms = how >= 8 && how <= 10;
            boolean honey = how <= 4 || how >= 11;
            Due.due("7 is ahead of 2: SWARMS, how " + how, x.turn(0, Due.SWARMS, 2, how, 0), swarms ? 2 : 7);
            Due.due("7 is ahead of 2: HONEY, how " + how, x.turn(0, Due.HONEY, -1, how, 0), honey ? 2 : 7);
        }
        Due.due("HONEY stays", x.look(0, Due.HONEY, 0), 0);
    }

    private static void faults() {
        HiveLedger x = newLedger(2);
        for (int row = 0; row < 5; row++) {
            for (int how : new int[] {-1, 13, Due.MIN, Due.MAX}) {
                Due.due("no operation " + how, x.turn(0, row, 0, how, 1), 8);
                Due.due("no operation, lost", x.turn(1, row, 0, how, 1), 8);
                Due.due("no operation, no cell", x.turn(0, row, 2, how, 1), 8);
            }
            Due.due("no yard", x.turn(2, row, 0, 8, 1), 8);
            Due.due("no yard", x.turn(-1, row, 0, 0, 1), 8);
            Due.due("no row", x.turn(0, 5 + row, 0, 0, 1), 8);
            Due.due("no row", x.turn(0, -1 - row, 0, 0, 1), 8);
        }
        for (int row : new int[] {Due.MARKS, Due.HEATS, Due.HONEY, Due.MITES}) {
            for (int how = 3; how <= 4; how++) {
                Due.due("1 is ahead of 5", x.turn(1, row, 0, how, 0), 1);
                Due.due("1 is ahead of 2", x.turn(1, row, -1, how, 0), 1);
                Due.due("2 is ahead of 5", x.turn(0, row, 2, how, 0), 2);
                Due.due("5", x.turn(0, row, 1, how, 0), 5);
                Due.due("5 is no 8", x.fault(), 5);
            }
            for (int cell : new int[] {-1, 2, Due.MIN, Due.MAX}) {
                Due.due("no cell " + cell, x.turn(0, row, cell, 11, 0), 2);
            }
            Due.due("look behind faults", x.look(0, row, 0), 0);
            Due.due("look behind faults", x.look(0, row, 1), 0);
        }
    }

    private static void sharedCells() {
        HiveLedger x = newLedger(2);
        for (int row = 0; row < 5; row++) {
            x.share(0, row);
            int how = row == Due.SWARMS ? 9 : 0;
            Due.due("turn in the other yard", x.turn(1, row, 1, how, 4), 0);
            int want = row == Due.SWARMS ? 1 : row == Due.HONEY ? Float.floatToIntBits(1f) : 4;
            Due.due("is done in both", x.look(0, row, 1), want);
            Due.due("is done in both", x.look(1, row, 1), want);
        }
    }
}

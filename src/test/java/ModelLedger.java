/**
 * The document told a second time, by arrays of Java's own types and what the machine throws, so that
 * ModelTest can hold the program against something that shares none of its code.
 */
final class ModelLedger {
    private final char[][] marks = new char[2][];
    private final short[][] heats = new short[2][];
    private final float[][] honey = new float[2][];
    private final boolean[][] swarms = new boolean[2][];
    private final byte[][] mites = new byte[2][];
    private final int[][][] meadows = new int[4][][];
    private final int[] counts = new int[10];
    private int latest = 0;

    private static final class Fault extends RuntimeException {
        private static final long serialVersionUID = 1L;
        final int number;

        Fault(int number) {
            super("fault " + number);
            this.number = number;
        }
    }

    int latest() {
        return latest;
    }

    int counted(int what) {
        return what < 0 || what > 9 ? -1 : counts[what];
    }

    /** Acts are named by the order of the face: 0 lay, 1 lose, .. 13 tend. */
    int act(int which, int[] a) {
        int[] answer = {0};
        int fault = 0;
        try {
            todo(which, a, answer);
        } catch (NullPointerException e) {
            fault = 1;
        } catch (ArrayIndexOutOfBoundsException e) {
            fault = 2;
        } catch (NegativeArraySizeException e) {
            fault = 3;
        } catch (ArithmeticException e) {
            fault = 5;
        } catch (Fault e) {
            fault = e.number;
        }
        latest = fault;
        counts[fault]++;
        counts[9]++;
        boolean asks = which == 3 || which == 4 || which == 11 || which == 12;
        return which == 7 ? answer[0] : !asks ? fault : fault == 0 ? answer[0] : 0;
    }

    private void todo(int which, int[] a, int[] answer) {
        if (which <= 6) {
            need(a[0] >= 0 && a[0] < 2 && a[1] >= 0 && a[1] < 5, 8);
        } else if (which > 7) {
            need(a[0] >= 0 && a[0] < 4, 8);
        }
        switch (which) {
            case 0: lay(a[0], a[1], a[2]); break;
            case 1: lose(a[0], a[1]); break;
            case 2: share(a[0], a[1]); break;
            case 3: answer[0] = java.lang.reflect.Array.getLength(array(a[0], a[1])); break;
            case 4: answer[0] = look(a[0], a[1], a[2]); break;
            case 5: put(a[0], a[1], a[2], a[3]); break;
            case 6: turn(a[0], a[1], a[2], a[3], a[4]); break;
            case 7: days(a[0], a[1], a[2], answer); break;
            case 8:
                need(a[1] <= 20 && a[2] <= 20, 4);
                meadows[a[0]] = new int[a[1]][a[2]];
                break;
            case 9: join(a[0], a[1], a[2], a[3]); break;
            case 10:
                if (a[1] == -1) {
                    meadows[a[0]] = null;
                } else {
                    meadows[a[0]][a[1]] = null;
                }
                break;
            case 11: answer[0] = a[1] == -1 ? meadows[a[0]].length : meadows[a[0]][a[1]].length; break;
            case 12: answer[0] = meadows[a[0]][a[1]][a[2]]; break;
            default:
                need(a[3] >= 0 && a[3] <= 12, 8);
                meadows[a[0]][a[1]][a[2]] = whole(meadows[a[0]][a[1]][a[2]], a[3], a[4]);
                break;
        }
    }

    private static void need(boolean holds, int fault) {
        if (!holds) {
            throw new Fault(fault);
        }
    }

    private Object array(int yard, int row) {
        Object[][] all = {null, heats, honey, swarms, mites};
        Object array = row == 0 ? marks[yard] : all[row][yard];
        if (array == null) {
            throw new NullPointerException();
        }
        return array;
    }

    private void lay(int yard, int row, int cells) {
        need(cells <= 24, 4);
        switch (row) {
            case 0: marks[yard] = new char[cells]; break;
            case 1: heats[yard] = new short[cells]; break;
            case 2: honey[yard] = new float[cells]; break;
            case 3: swarms[yard] = new boolean[cells]; break;
            default: mites[yard] = new byte[cells]; break;
        }
    }

    private void lose(int yard, int row) {
        switch (row) {
            case 0: marks[yard] = null; break;
            case 1: heats[yard] = null; break;
            case 2: honey[yard] = null; break;
            case 3: swarms[yard] = null; break;
            default: mites[yard] = null; break;
        }
    }

    private void share(int yard, int row) {
        switch (row) {
            case 0: marks[1 - yard] = marks[yard]; break;
            case 1: heats[1 - yard] = heats[yard]; break;
            case 2: honey[1 - yard] = honey[yard]; break;
            case 3: swarms[1 - yard] = swarms[yard]; break;
            default: mites[1 - yard] = mites[yard]; break;
        }
    }

    private int look(int yard, int row, int cell) {
        switch (row) {
            case 0: return marks[yard][cell];
            case 1: return heats[yard][cell];
            case 2: return Float.floatToRawIntBits(honey[yard][cell]);
            case 3: return swarms[yard][cell] ? 1 : 0;
            default: return mites[yard][cell];
        }
    }

    private void put(int yard, int row, int cell, int v) {
        switch (row) {
            case 0: marks[yard][cell] = (char) v; break;
            case 1: heats[yard][cell] = (short) v; break;
            case 2: honey[yard][cell] = (float) v / 4f; break;
            case 3: swarms[yard][cell] = v != 0; break;
            default: mites[yard][cell] = (byte) v; break;
        }
    }

    private void turn(int yard, int row, int cell, int how, int v) {
        need(how >= 0 && how <= 12, 8);
        need(row != 3 || how >= 8 && how <= 10, 7);
        need(row != 2 || how <= 4 || how >= 11, 7);
        switch (row) {
            case 0: marks[yard][cell] = (char) whole(marks[yard][cell], how, v); break;
            case 1: heats[yard][cell] = (short) whole(heats[yard][cell], how, v); break;
            case 2: honey[yard][cell] = sweet(honey[yard][cell], how, v); break;
            case 3: swarms[yard][cell] = whole(swarms[yard][cell] ? 1 : 0, how, v != 0 ? 1 : 0) == 1; break;
            default: mites[yard][cell] = (byte) whole(mites[yard][cell], how, v); break;
        }
    }

    private static float sweet(float x, int how, int v) {
        need(how != 3 && how != 4 || v != 0, 5);
        float by = (float) v / 4f;
        float next = how == 0 ? x + by : how == 1 ? x - by : how == 2 ? x * by : how == 3 ? x / by
            : how == 4 ? x % by : how == 11 ? x + 1f : x - 1f;
        need(!Float.isInfinite(next), 6);
        return next;
    }

    private static int whole(int x, int how, int v) {
        int[] easy = {x + v, x - v, x * v, 0, 0, x << v, x >> v, x >>> v, x & v, x | v, x ^ v, x + 1, x - 1};
        return how == 3 ? x / v : how == 4 ? x % v : easy[how];
    }

    private void days(int yard, int from, int days, int[] done) {
        need(yard >= 0 && yard < 2 && days >= 0 && days <= 24, 8);
        for (int i = 0; i < days; i++) {
            int d = from + i;
            boolean swarm = swarms[yard][d];
            mites[yard][d] += swarm ? 2 : 1;
            honey[yard][d] -= 0.5f;
            marks[yard][d] += mites[yard][d];
            heats[yard][d] ^= marks[yard][d];
            done[0]++;
        }
    }

    private void join(int meadow, int bed, int other, int from) {
        need(other >= 0 && other < 4, 8);
        // Java would ask the second one first
        if (meadows[meadow] == null) {
            throw new Fault(1);
        }
        need(bed >= 0 && bed < meadows[meadow].length, 2);
        meadows[meadow][bed] = meadows[other][from];
    }
}

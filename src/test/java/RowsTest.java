/** Promises 2 to 7: rows are laid, lost, shared, sized, looked at and written. */
public final class RowsTest {
    private static final int[] NO_YARDS = {-1, 2, Due.MIN, Due.MAX};
    private static final int[] NO_ROWS = {-1, 5, Due.MIN, Due.MAX};

    public static void main(String[] args) {
        for (int row = 0; row < 5; row++) {
            laid(row);
            lost(row);
            shared(row);
            sharedTillAnotherIsLaid(row);
            sharedLoss(row);
            wrongCells(row);
        }
        wrongPlaces();
        putNumbers();
        putHoney();
        Due.end();
    }

    private static void laid(int row) {
        HiveLedger x = new HiveLedger();
        for (int cells = 0; cells <= 24; cells++) {
            Due.due("lay(1, " + row + ", " + cells + ")", x.lay(1, row, cells), 0);
            Due.due("size(1, " + row + ")", x.size(1, row), cells);
            Due.due("fault()", x.fault(), 0);
            for (int cell = 0; cell < cells; cell++) {
                Due.due("look(1, " + row + ", " + cell + ")", x.look(1, row, cell), 0);
            }
            if (cells > 0) {
                x.put(1, row, cells - 1, 1);
                Due.due("look behind put is not 0", x.look(1, row, cells - 1) == 0 ? 1 : 0, 0);
            }
        }
        Due.due("lay(25)", x.lay(1, row, 25), 4);
        Due.due("lay(MAX)", x.lay(1, row, Due.MAX), 4);
        Due.due("lay(-1)", x.lay(1, row, -1), 3);
        Due.due("lay(MIN)", x.lay(1, row, Due.MIN), 3);
        Due.due("size behind faults", x.size(1, row), 24);
        Due.due("the cell behind faults is not 0", x.look(1, row, 23) == 0 ? 1 : 0, 0);
        for (int other = 0; other < 5; other++) {
            Due.dueFault(x, "size of row " + other + " of the other yard", x.size(0, other), 1);
            if (other != row) {
                Due.dueFault(x, "size of another row " + other, x.size(1, other), 1);
            }
        }
    }

    private static void lost(int row) {
        HiveLedger x = new HiveLedger();
        Due.due("lose of what is lost", x.lose(0, row), 0);
        x.lay(0, row, 2);
        x.lay(1, row, 3);
        Due.due("lose", x.lose(0, row), 0);
        Due.dueFault(x, "size", x.size(0, row), 1);
        Due.dueFault(x, "look", x.look(0, row, 0), 1);
        Due.dueFault(x, "look at no cell", x.look(0, row, -1), 1);
        Due.due("put", x.put(0, row, 0, 1), 1);
        Due.due("put in no cell", x.put(0, row, 24, 1), 1);
        Due.due("size of the other yard's", x.size(1, row), 3);
        Due.due("lose again", x.lose(0, row), 0);
        x.lay(0, row, 1);
        Due.due("look behind another lay", x.look(0, row, 0), 0);
    }

    private static void shared(int row) {
        for (int yard = 0; yard < 2; yard++) {
            HiveLedger x = new HiveLedger();
            int other = 1 - yard;
            x.lay(yard, row, 2);
            x.lay(other, row, 5);
            x.put(yard, row, 1, 1);
            int one = x.look(yard, row, 1);
            Due.due("share", x.share(yard, row), 0);
            Due.due("size of the shared", x.size(other, row), 2);
            Due.due("what was there ahead of it", x.look(other, row, 1), one);
            x.put(other, row, 0, 1);
            Due.due("what is done in one", x.look(yard, row, 0), one);
            x.put(yard, row, 1, 0);
            Due.due("what is done in the other", x.look(other, row, 1), 0);
            Due.due("share back", x.share(other, row), 0);
            x.put(yard, row, 1, 1);
            Due.due("still one", x.look(other, row, 1), one);
            x.lose(yard, row);
            Due.due("the other keeps it", x.look(other, row, 1), one);
            Due.due("its size", x.size(other, row), 2);
            Due.dueFault(x, "the loser has none", x.size(yard, row), 1);
        }
    }

    private static void sharedTillAnotherIsLaid(int row) {
        HiveLedger x = new HiveLedger();
        x.lay(0, row, 2);
        x.put(0, row, 0, 1);
        int one = x.look(0, row, 0);
        x.share(0, row);
        x.lay(0, row, 2);
        Due.due("the new one", x.look(0, row, 0), 0);
        Due.due("the old one", x.look(1, row, 0), one);
        x.put(0, row, 1, 1);
        Due.due("the old one is alone", x.look(1, row, 1), 0);
        x.put(1, row, 0, 0);
        x.put(0, row, 0, 1);
        Due.due("the old one is alone still", x.look(1, row, 0), 0);
    }

    private static void sharedLoss(int row) {
        HiveLedger x = new HiveLedger();
        x.lay(1, row, 4);
        Due.due("share of what is lost", x.share(0, row), 0);
        Due.dueFault(x, "size of the other", x.size(1, row), 1);
        Due.dueFault(x, "size of this", x.size(0, row), 1);
        x.lay(0, row, 4);
        x.share(0, row);
        Due.due("a fault in lay", x.lay(0, row, 25), 4);
        x.put(0, row, 3, 1);
        Due.due("leaves them one", x.look(1, row, 3) == 0 ? 1 : 0, 0);
    }

    private static void wrongCells(int row) {
        HiveLedger x = new HiveLedger();
        x.lay(0, row, 3);
        for (int cell : new int[] {-1, 3, 24, Due.MIN, Due.MAX}) {
            Due.dueFault(x, "look at cell " + cell, x.look(0, row, cell), 2);
            Due.due("put in cell " + cell, x.put(0, row, cell, 1), 2);
        }
        for (int cell = 0; cell < 3; cell++) {
            Due.due("look", x.look(0, row, cell), 0);
        }
    }

    private static void wrongPlaces() {
        HiveLedger x = new HiveLedger();
        for (int yard = 0; yard < 2; yard++) {
            for (int row = 0; row < 5; row++) {
                x.lay(yard, row, 2);
            }
        }
        for (int yard : NO_YARDS) {
            wrongPlace(x, yard, 0);
        }
        for (int row : NO_ROWS) {
            wrongPlace(x, 0, row);
            wrongPlace(x, 1, row);
        }
        wrongPlace(x, 2, -1);
        for (int yard = 0; yard < 2; yard++) {
            for (int row = 0; row < 5; row++) {
                Due.due("size behind wrong calls", x.size(yard, row), 2);
            }
        }
    }

    private static void wrongPlace(HiveLedger x, int yard, int row) {
        String place = "(" + yard + ", " + row + ")";
        Due.due("lay" + place, x.lay(yard, row, 1), 8);
        Due.due("lay of too many" + place, x.lay(yard, row, 25), 8);
        Due.due("lay of too few" + place, x.lay(yard, row, -1), 8);
        Due.due("lose" + place, x.lose(yard, row), 8);
        Due.due("share" + place, x.share(yard, row), 8);
        Due.dueFault(x, "size" + place, x.size(yard, row), 8);
        Due.dueFault(x, "look" + place, x.look(yard, row, 0), 8);
        Due.dueFault(x, "look at no cell" + place, x.look(yard, row, 9), 8);
        Due.due("put" + place, x.put(yard, row, 0, 1), 8);
        Due.due("put in no cell" + place, x.put(yard, row, -1, 1), 8);
    }

    private static void putNumbers() {
        HiveLedger x = new HiveLedger();
        for (int row = 0; row < 5; row++) {
            x.lay(0, row, 24);
        }
        int[] numbers = {0, 1, -1, 2, 127, 128, 255, 256, -128, -129, 32767, 32768, 65535, 65536, 65537,
            -32768, -32769, -65536, Due.MIN, Due.MAX};
        for (int v : numbers) {
            Due.due("put in MARKS", x.put(0, Due.MARKS, 7, v), 0);
            Due.due("MARKS of " + v, x.look(0, Due.MARKS, 7), (char) v);
            Due.due("put in HEATS", x.put(0, Due.HEATS, 7, v), 0);
            Due.due("HEATS of " + v, x.look(0, Due.HEATS, 7), (short) v);
            Due.due("put in SWARMS", x.put(0, Due.SWARMS, 7, v), 0);
            Due.due("SWARMS of " + v, x.look(0, Due.SWARMS, 7), v != 0 ? 1 : 0);
            Due.due("put in MITES", x.put(0, Due.MITES, 7, v), 0);
            Due.due("MITES of " + v, x.look(0, Due.MITES, 7), (byte) v);
        }
        for (int row = 0; row < 5; row++) {
            Due.due("the cell ahead", x.look(0, row, 6), 0);
            Due.due("the cell behind", x.look(0, row, 8), 0);
        }
    }

    private static void putHoney() {
        HiveLedger x = new HiveLedger();
        x.lay(0, Due.HONEY, 1);
        int[] quarters = {0, 1, 2, 3, 4, 5, -1, -2, -4, 7, 1000, 16777215, 16777216, 16777217, 16777219,
            -16777217, -16777219, 33554433, 33554435, 123456789, Due.MIN, Due.MIN + 1, Due.MAX, Due.MAX - 64};
        for (int v : quarters) {
            Due.due("put(" + v + ")", x.put(0, Due.HONEY, 0, v), 0);
            Due.dueHoney("look of " + v, x.look(0, Due.HONEY, 0), (float) v / 4f);
        }
    }
}

/** Promise 9: days. */
public final class DaysTest {
    public static void main(String[] args) {
        ordinary();
        wraps();
        honeyRounded();
        for (int row = 0; row < 5; row++) {
            firstFault(row, true);
            firstFault(row, false);
        }
        someDaysDone();
        wrongInputs();
        sharedYards();
        fullRows();
        Due.end();
    }

    private static HiveLedger newLedger(int cells) {
        HiveLedger x = new HiveLedger();
        for (int row = 0; row < 5; row++) {
            x.lay(0, row, cells);
        }
        return x;
    }

    private static void ordinary() {
        HiveLedger x = newLedger(4);
        x.put(0, Due.SWARMS, 2, 1);
        x.put(0, Due.MITES, 1, 10);
        x.put(0, Due.MITES, 2, 10);
        x.put(0, Due.MARKS, 1, 100);
        x.put(0, Due.MARKS, 2, 100);
        x.put(0, Due.HEATS, 2, 0x0F0F);
        x.put(0, Due.HONEY, 2, 9);
        Due.due("days(0, 1, 2)", x.days(0, 1, 2), 2);
        Due.due("fault()", x.fault(), 0);
        Due.due("MITES without a swarm", x.look(0, Due.MITES, 1), 11);
        Due.due("MITES with a swarm", x.look(0, Due.MITES, 2), 12);
        Due.dueHoney("HONEY", x.look(0, Due.HONEY, 1), -0.5f);
        Due.dueHoney("HONEY", x.look(0, Due.HONEY, 2), 1.75f);
        Due.due("MARKS", x.look(0, Due.MARKS, 1), 111);
        Due.due("MARKS", x.look(0, Due.MARKS, 2), 112);
        Due.due("HEATS", x.look(0, Due.HEATS, 1), 111);
        Due.due("HEATS", x.look(0, Due.HEATS, 2), 0x0F0F ^ 112);
        Due.due("SWARMS", x.look(0, Due.SWARMS, 2), 1);
        for (int row = 0; row < 5; row++) {
            Due.due("the day ahead", x.look(0, row, 0), 0);
            Due.due("the day behind", x.look(0, row, 3), 0);
        }
    }

    private static void wraps() {
        HiveLedger x = newLedger(2);
        x.put(0, Due.MITES, 0, 127);
        x.put(0, Due.MARKS, 0, 5);
        x.put(0, Due.MITES, 1, 99);
        x.put(0, Due.MARKS, 1, 65535);
        x.put(0, Due.HEATS, 0, -1);
        Due.due("days", x.days(0, 0, 2), 2);
        Due.due("MITES wraps", x.look(0, Due.MITES, 0), -128);
        Due.due("MARKS wraps below 0", x.look(0, Due.MARKS, 0), 65536 + 5 - 128);
        Due.due("HEATS", x.look(0, Due.HEATS, 0), (short) ~(65536 + 5 - 128));
        Due.due("MARKS wraps", x.look(0, Due.MARKS, 1), 99);
        Due.due("HEATS", x.look(0, Due.HEATS, 1), 99);
    }

    private static void honeyRounded() {
        HiveLedger x = newLedger(3);
        int[] quarters = {Due.MAX, 16777215 * 4, 8388609 * 4};
        for (int i = 0; i < 3; i++) {
            x.put(0, Due.HONEY, i, quarters[i]);
        }
        x.days(0, 0, 3);
        for (int i = 0; i < 3; i++) {
            Due.dueHoney("HONEY less 1/2", x.look(0, Due.HONEY, i), (float) quarters[i] / 4f - 0.5f);
        }
    }

    /** One row is lost or has too few cells: those that come ahead of it in a day have changed. */
    private static void firstFault(int missing, boolean lost) {
        HiveLedger x = newLedger(3);
        if (lost) {
            x.lose(0, missing);
        } else {
            x.lay(0, missing, 1);
        }
        int from = lost ? 0 : 1;
        Due.due("days without row " + missing, x.days(0, from, 2), 0);
        Due.due("fault()", x.fault(), lost ? 1 : 2);
        int[] order = {Due.SWARMS, Due.MITES, Due.HONEY, Due.MARKS, Due.HEATS};
        int[] changed = {0, 1, Float.floatToIntBits(-0.5f), 1, 1};
        boolean ahead = true;
        for (int i = 0; i < 5; i++) {
            ahead = ahead && order[i] != missing;
            if (order[i] != missing) {
                Due.due("row " + order[i] + " without row " + missing, x.look(0, order[i], from), ahead ? changed[i] : 0);
                Due.due("the day behind", x.look(0, order[i], from + 1), 0);
            }
        }
        Due.due("count of the fault", x.count(lost ? 1 : 2), 1);
    }

    private static void someDaysDone() {
        HiveLedger x = newLedger(5);
        Due.due("days(0, 3, 24)", x.days(0, 3, 24), 2);
        Due.due("fault()", x.fault(), 2);
        Due.due("MITES", x.look(0, Due.MITES, 3), 1);
        Due.due("MITES", x.look(0, Due.MITES, 4), 1);
        x.lay(0, Due.HONEY, 2);
        Due.due("days(0, 0, 5)", x.days(0, 0, 5), 2);
        Due.due("fault()", x.fault(), 2);
        Due.due("MITES of the day that was not whole", x.look(0, Due.MITES, 2), 1);
        Due.due("MARKS of the day that was not whole", x.look(0, Due.MARKS, 2), 0);
        Due.due("MITES behind it", x.look(0, Due.MITES, 3), 1);
        Due.due("days(0, 0, 2)", x.days(0, 0, 2), 2);
        Due.due("fault()", x.fault(), 0);
        Due.due("two faults", x.count(2), 2);
        Due.due("LOST ahead of CELL by the order of rows", days(x, Due.SWARMS), 1);
        x = newLedger(2);
        x.lay(0, Due.SWARMS, 0);
        x.lose(0, Due.MITES);
        x.days(0, 0, 1);
        Due.due("SWARMS' fault is the first", x.fault(), 2);
    }

    private static int days(HiveLedger x, int lost) {
        x.lose(0, lost);
        x.days(0, 77, 1);
        return x.fault();
    }

    private static void wrongInputs() {
        HiveLedger x = newLedger(24);
        for (int days : new int[] {-1, 25, Due.MIN, Due.MAX}) {
            Due.dueFault(x, "days " + days, x.days(0, 0, days), 8);
            Due.dueFault(x, "days of a lost yard " + days, x.days(1, 0, days), 8);
        }
        for (int yard : new int[] {-1, 2, Due.MIN, Due.MAX}) {
            Due.dueFault(x, "yard " + yard, x.days(yard, 0, 1), 8);
            Due.dueFault(x, "yard " + yard, x.days(yard, 0, 0), 8);
        }
        for (int from : new int[] {-1, 24, -24, Due.MIN, Due.MAX}) {
            Due.dueFault(x, "from " + from, x.days(0, from, 24), 2);
        }
        Due.dueFault(x, "no days", x.days(0, 0, 0), 0);
        Due.dueFault(x, "no days from nowhere", x.days(0, Due.MAX, 0), 0);
        Due.dueFault(x, "no days of a lost yard", x.days(1, 0, 0), 0);
        Due.dueFault(x, "a day of a lost yard", x.days(1, 0, 1), 1);
        Due.dueFault(x, "a day of a lost yard from nowhere", x.days(1, -1, 1), 1);
        for (int row = 0; row < 5; row++) {
            Due.due("nothing was done", x.look(0, row, 0), 0);
            Due.due("nothing was done", x.look(0, row, 23), 0);
        }
    }

    private static void sharedYards() {
        HiveLedger x = newLedger(3);
        for (int row = 0; row < 5; row++) {
            x.share(0, row);
        }
        Due.due("days(1, 0, 3)", x.days(1, 0, 3), 3);
        Due.due("days(0, 1, 2)", x.days(0, 1, 2), 2);
        Due.due("MITES of both", x.look(1, Due.MITES, 1), 2);
        Due.due("MARKS of both", x.look(0, Due.MARKS, 1), 3);
        Due.due("HEATS of both", x.look(1, Due.HEATS, 1), 1 ^ 3);
        Due.dueHoney("HONEY of both", x.look(1, Due.HONEY, 2), -1f);
    }

    private static void fullRows() {
        HiveLedger x = newLedger(24);
        Due.due("days(0, 0, 24)", x.days(0, 0, 24), 24);
        Due.due("fault()", x.fault(), 0);
        for (int day = 0; day < 24; day++) {
            Due.due("HEATS of day " + day, x.look(0, Due.HEATS, day), 1);
        }
        Due.due("days(0, 1, 24)", x.days(0, 1, 24), 23);
        Due.due("fault()", x.fault(), 2);
        Due.due("all acts", x.count(9), 5 + 2 + 24);
    }
}

/** The bounds of promises 1 to 9, and of what 'Terms' says of rows that are lost, empty, full or shared. */
public final class YardBoundsTest {
    private static final int MARKS = Due.MARKS;
    private static final int HEATS = Due.HEATS;
    private static final int HONEY = Due.HONEY;
    private static final int SWARMS = Due.SWARMS;
    private static final int MITES = Due.MITES;
    private static final int MIN = Due.MIN;
    private static final int MAX = Due.MAX;
    private static final int MINUS_HALF = 0xBF000000;

    public static void main(String[] args) {
        allRowsAreLostAtFirst();
        for (int yard = 0; yard < 2; yard++) {
            for (int row = 0; row < 5; row++) {
                emptyRow(yard, row);
                fullRow(yard, row);
                laidAgainIsAllZero(yard, row);
                lostAlsoIfItIs(yard, row);
                sharedIsTheOthersToo(yard, row);
                sharedTillOneLosesIt(yard, row);
                sharedTillOneHasAnotherLaid(yard, row);
                sharedAgain(yard, row);
                sharedLost(yard, row);
                sharedEmpty(yard, row);
            }
        }
        noDays();
        allDays();
        daysEndAtTheRowsEnd();
        daysFromNoCell();
        daysFromTheGreatestInt();
        miteGrowsByOneOrTwo();
        miteWraps();
        marksGrowByMitesWithTheirSign();
        heatsBecomeExclusiveOr();
        honeyLessHalfIsRounded();
        honeyLessHalfIsNeverMuch();
        swarmsAreOnlyLookedAt();
        firstFaultIsOfTheFirstRowAsked();
        whatWasDoneStays();
        daysOneBehindTheOther();
        daysOfSharedRows();
        Due.end();
    }

    private static HiveLedger allRows(int cells) {
        HiveLedger x = new HiveLedger();
        for (int row = 0; row < 5; row++) {
            x.lay(0, row, cells);
        }
        return x;
    }

    /** What a cell has that was 0 and got 1: of HONEY a quarter. */
    private static int one(int row) {
        return row == HONEY ? 0x3E800000 : 1;
    }

    private static String name(int yard, int row) {
        return " of yard " + yard + ", row " + row;
    }

    /** Promise 1: 'All rows .. are lost', 'A row is LOST (at first)' */
    private static void allRowsAreLostAtFirst() {
        HiveLedger x = new HiveLedger();
        for (int yard = 0; yard < 2; yard++) {
            for (int row = 0; row < 5; row++) {
                Due.dueFault(x, "size" + name(yard, row), x.size(yard, row), 1);
                Due.dueFault(x, "look" + name(yard, row), x.look(yard, row, 0), 1);
                Due.due("put" + name(yard, row), x.put(yard, row, 0, 1), 1);
                Due.due("turn" + name(yard, row), x.turn(yard, row, 0, row == SWARMS ? 9 : 0, 1), 1);
            }
            Due.dueFault(x, "days of yard " + yard, x.days(yard, 0, 1), 1);
        }
    }

    /** Promises 2 and 5: a row of no cells is not lost. */
    private static void emptyRow(int yard, int row) {
        HiveLedger x = new HiveLedger();
        Due.due("lay of none" + name(yard, row), x.lay(yard, row, 0), 0);
        Due.dueFault(x, "size of none" + name(yard, row), x.size(yard, row), 0);
        Due.dueFault(x, "look at cell 0 of none" + name(yard, row), x.look(yard, row, 0), 2);
        Due.due("put in cell 0 of none" + name(yard, row), x.put(yard, row, 0, 1), 2);
    }

    /** 'CELLS 0, 1, .., at most 24' */
    private static void fullRow(int yard, int row) {
        HiveLedger x = new HiveLedger();
        Due.due("lay of 24" + name(yard, row), x.lay(yard, row, 24), 0);
        Due.due("size of 24" + name(yard, row), x.size(yard, row), 24);
        for (int cell = 0; cell < 24; cell++) {
            Due.due("cell " + cell + name(yard, row), x.look(yard, row, cell), 0);
            Due.due("fault()", x.fault(), 0);
        }
        Due.due("put in cell 23" + name(yard, row), x.put(yard, row, 23, 1), 0);
        Due.due("cell 23" + name(yard, row), x.look(yard, row, 23), one(row));
        Due.due("cell 22" + name(yard, row), x.look(yard, row, 22), 0);
        Due.dueFault(x, "cell 24" + name(yard, row), x.look(yard, row, 24), 2);
    }

    /** Promise 2: 'all 0', also where a row was; at its bounds the number of cells is another one. */
    private static void laidAgainIsAllZero(int yard, int row) {
        HiveLedger x = new HiveLedger();
        x.lay(yard, row, 24);
        x.put(yard, row, 0, 1);
        x.put(yard, row, 23, 1);
        Due.due("lay of 24 again" + name(yard, row), x.lay(yard, row, 24), 0);
        Due.due("cell 0" + name(yard, row), x.look(yard, row, 0), 0);
        Due.due("cell 23" + name(yard, row), x.look(yard, row, 23), 0);
        x.put(yard, row, 0, 1);
        x.lay(yard, row, 1);
        Due.due("size of 1" + name(yard, row), x.size(yard, row), 1);
        Due.due("cell 0" + name(yard, row), x.look(yard, row, 0), 0);
        Due.dueFault(x, "cell 1" + name(yard, row), x.look(yard, row, 1), 2);
        x.lay(yard, row, 0);
        Due.dueFault(x, "cell 0 of none" + name(yard, row), x.look(yard, row, 0), 2);
    }

    /** Promise 3: 'A row is lost in a yard (also if it is)' */
    private static void lostAlsoIfItIs(int yard, int row) {
        HiveLedger x = new HiveLedger();
        Due.due("lose at first" + name(yard, row), x.lose(yard, row), 0);
        Due.dueFault(x, "size" + name(yard, row), x.size(yard, row), 1);
        x.lay(1 - yard, row, 4);
        x.lay(yard, row, 3);
        Due.due("lose" + name(yard, row), x.lose(yard, row), 0);
        Due.due("lose again" + name(yard, row), x.lose(yard, row), 0);
        Due.dueFault(x, "size" + name(yard, row), x.size(yard, row), 1);
        Due.due("the other yard's", x.size(1 - yard, row), 4);
        Due.due("lay" + name(yard, row), x.lay(yard, row, 2), 0);
        Due.due("size" + name(yard, row), x.size(yard, row), 2);
    }

    /** 'what is done to its cells in one yard is done in both' */
    private static void sharedIsTheOthersToo(int yard, int row) {
        HiveLedger x = new HiveLedger();
        x.lay(yard, row, 24);
        x.put(yard, row, 23, 1);
        Due.due("share" + name(yard, row), x.share(yard, row), 0);
        Due.due("size in the other", x.size(1 - yard, row), 24);
        Due.due("cell 23 in the other", x.look(1 - yard, row, 23), one(row));
        x.put(1 - yard, row, 0, 1);
        Due.due("put in the other", x.look(yard, row, 0), one(row));
        x.turn(yard, row, 0, row == SWARMS ? 8 : 2, 0);
        Due.due("turn in this one", x.look(1 - yard, row, 0), 0);
        for (int other = 0; other < 5; other++) {
            if (other != row) {
                Due.dueFault(x, "another row of the other", x.size(1 - yard, other), 1);
            }
        }
    }

    /** 'till one of them loses it' */
    private static void sharedTillOneLosesIt(int yard, int row) {
        for (int loser = 0; loser < 2; loser++) {
            HiveLedger x = new HiveLedger();
            x.lay(yard, row, 2);
            x.share(yard, row);
            x.put(yard, row, 1, 1);
            x.lose(loser, row);
            Due.dueFault(x, "the loser's" + name(yard, row), x.size(loser, row), 1);
            Due.due("the other's" + name(yard, row), x.size(1 - loser, row), 2);
            Due.due("the other's cell" + name(yard, row), x.look(1 - loser, row, 1), one(row));
            x.lay(loser, row, 2);
            x.put(loser, row, 0, 1);
            Due.due("no longer shared" + name(yard, row), x.look(1 - loser, row, 0), 0);
        }
    }

    /** 'or has another one laid' */
    private static void sharedTillOneHasAnotherLaid(int yard, int row) {
        for (int layer = 0; layer < 2; layer++) {
            HiveLedger x = new HiveLedger();
            x.lay(yard, row, 2);
            x.share(yard, row);
            x.put(yard, row, 1, 1);
            x.lay(layer, row, 2);
            Due.due("the new one" + name(yard, row), x.look(layer, row, 1), 0);
            Due.due("the old one" + name(yard, row), x.look(1 - layer, row, 1), one(row));
            x.put(layer, row, 0, 1);
            Due.due("the old one alone" + name(yard, row), x.look(1 - layer, row, 0), 0);
            x.put(1 - layer, row, 1, 0);
            x.put(layer, row, 1, 1);
            Due.due("the old one alone" + name(yard, row), x.look(1 - layer, row, 1), 0);
        }
    }

    /** Promise 4: shared twice, back, and over another row that the other yard has. */
    private static void sharedAgain(int yard, int row) {
        HiveLedger x = new HiveLedger();
        x.lay(yard, row, 3);
        x.lay(1 - yard, row, 24);
        x.put(1 - yard, row, 0, 1);
        Due.due("share" + name(yard, row), x.share(yard, row), 0);
        Due.due("share again" + name(yard, row), x.share(yard, row), 0);
        Due.due("share back" + name(yard, row), x.share(1 - yard, row), 0);
        Due.due("size" + name(yard, row), x.size(yard, row), 3);
        Due.due("the other's is gone", x.look(1 - yard, row, 0), 0);
        x.put(1 - yard, row, 2, 1);
        Due.due("still shared" + name(yard, row), x.look(yard, row, 2), one(row));
    }

    /** Promise 4: 'where this one's is lost the other's is lost, too, without a fault' */
    private static void sharedLost(int yard, int row) {
        HiveLedger x = new HiveLedger();
        Due.due("share where both are lost" + name(yard, row), x.share(yard, row), 0);
        x.lay(1 - yard, row, 5);
        Due.due("share of what is lost" + name(yard, row), x.share(yard, row), 0);
        Due.dueFault(x, "the other's", x.size(1 - yard, row), 1);
        x.lay(1 - yard, row, 5);
        Due.dueFault(x, "two lost rows are not one", x.size(yard, row), 1);
        Due.due("share back" + name(yard, row), x.share(1 - yard, row), 0);
        Due.due("size" + name(yard, row), x.size(yard, row), 5);
    }

    private static void sharedEmpty(int yard, int row) {
        HiveLedger x = new HiveLedger();
        x.lay(yard, row, 0);
        x.lay(1 - yard, row, 24);
        Due.due("share of none" + name(yard, row), x.share(yard, row), 0);
        Due.dueFault(x, "size of none in the other", x.size(1 - yard, row), 0);
    }

    /** Promise 9: 0 days are no day at all, where- and whenever. */
    private static void noDays() {
        HiveLedger x = allRows(1);
        for (int from : new int[] {0, 1, -1, 24, MIN, MAX}) {
            Due.dueFault(x, "days(0, " + from + ", 0)", x.days(0, from, 0), 0);
            Due.dueFault(x, "days(1, " + from + ", 0) without rows", x.days(1, from, 0), 0);
        }
        Due.due("MITES", x.look(0, MITES, 0), 0);
    }

    private static void allDays() {
        HiveLedger x = allRows(24);
        Due.due("days(0, 0, 24)", x.days(0, 0, 24), 24);
        Due.due("fault()", x.fault(), 0);
        int[] want = {1, 1, MINUS_HALF, 0, 1};
        for (int row = 0; row < 5; row++) {
            for (int day = 0; day < 24; day++) {
                Due.due("row " + row + ", day " + day, x.look(0, row, day), want[row]);
            }
        }
    }

    /** 'how many were done whole' */
    private static void daysEndAtTheRowsEnd() {
        for (int cells = 0; cells <= 24; cells++) {
            HiveLedger x = allRows(cells);
            Due.due("24 days of " + cells + " cells", x.days(0, 0, 24), cells);
            Due.due("fault()", x.fault(), cells == 24 ? 0 : 2);
            Due.due(cells + " days of " + cells + " cells", x.days(0, 0, cells), cells);
            Due.due("fault()", x.fault(), 0);
        }
        HiveLedger x = allRows(24);
        Due.due("days(0, 23, 1)", x.days(0, 23, 1), 1);
        Due.due("fault()", x.fault(), 0);
        Due.due("days(0, 23, 2)", x.days(0, 23, 2), 1);
        Due.due("fault()", x.fault(), 2);
        Due.due("both are done", x.look(0, MITES, 23), 2);
        Due.dueFault(x, "days(0, 24, 1)", x.days(0, 24, 1), 2);
    }

    private static void daysFromNoCell() {
        HiveLedger x = allRows(3);
        for (int from : new int[] {-1, -2, -24, 3, 24, MIN}) {
            Due.dueFault(x, "days(0, " + from + ", 24)", x.days(0, from, 24), 2);
        }
        for (int cell = 0; cell < 3; cell++) {
            Due.due("MITES", x.look(0, MITES, cell), 0);
        }
    }

    /** 'they wrap as ints do': the day behind the greatest int is the least, no cell, either. */
    private static void daysFromTheGreatestInt() {
        HiveLedger x = allRows(24);
        for (int days = 1; days <= 24; days++) {
            Due.dueFault(x, "days(0, MAX, " + days + ")", x.days(0, MAX, days), 2);
            Due.dueFault(x, "days(0, MAX - 3, " + days + ")", x.days(0, MAX - 3, days), 2);
        }
        Due.due("MITES", x.look(0, MITES, 0), 0);
    }

    /** 'MITES' cell d grows by 1, by 2 with a swarm' */
    private static void miteGrowsByOneOrTwo() {
        HiveLedger x = allRows(3);
        x.put(0, SWARMS, 1, MIN);
        x.days(0, 0, 3);
        Due.due("MITES without a swarm", x.look(0, MITES, 0), 1);
        Due.due("MITES with a swarm", x.look(0, MITES, 1), 2);
        Due.due("MITES without a swarm", x.look(0, MITES, 2), 1);
    }

    private static void miteWraps() {
        int[][] cases = {{126, 0, 127}, {127, 0, -128}, {126, 1, -128}, {127, 1, -127}, {-1, 0, 0}, {-1, 1, 1}};
        for (int[] c : cases) {
            HiveLedger x = allRows(1);
            x.put(0, MITES, 0, c[0]);
            x.put(0, SWARMS, 0, c[1]);
            Due.due("days", x.days(0, 0, 1), 1);
            Due.due("MITES of " + c[0] + ", swarm " + c[1], x.look(0, MITES, 0), c[2]);
        }
    }

    /** 'MARKS' grows by what MITES' is then': by the grown one, which may be below 0 */
    private static void marksGrowByMitesWithTheirSign() {
        int[][] cases = {{0, 0, 1}, {65535, 0, 0}, {65535, 126, 126}, {0, 127, 65408}, {127, 127, 65535},
            {128, 127, 0}, {0, -2, 65535}, {1, -2, 0}, {7, -1, 7}};
        for (int[] c : cases) {
            HiveLedger x = allRows(1);
            x.put(0, MARKS, 0, c[0]);
            x.put(0, MITES, 0, c[1]);
            Due.due("days", x.days(0, 0, 1), 1);
            Due.due("MARKS of " + c[0] + ", MITES of " + c[1], x.look(0, MARKS, 0), c[2]);
        }
    }

    /** 'HEATS' becomes itself exclusive or what MARKS' is then' */
    private static void heatsBecomeExclusiveOr() {
        int[][] cases = {{0, 65534, -1}, {-1, 65534, 0}, {-32768, 32767, 0}, {32767, 32767, -1},
            {0, 32767, -32768}, {5, 65535, 5}, {-32768, 65535, -32768}};
        for (int[] c : cases) {
            HiveLedger x = allRows(1);
            x.put(0, HEATS, 0, c[0]);
            x.put(0, MARKS, 0, c[1]);
            Due.due("days", x.days(0, 0, 1), 1);
            Due.due("HEATS of " + c[0] + ", MARKS of " + c[1] + " and 1", x.look(0, HEATS, 0), c[2]);
        }
    }

    /** 'HONEY's becomes itself less 1/2 (rounded)' */
    private static void honeyLessHalfIsRounded() {
        int great = 1 << 26;
        int[] quarters = {2, 1, 0, great, great - 4, great / 2, great / 2 - 2, -great, great + 8};
        float[] want = {0f, -0.25f, -0.5f, 16777216f, 16777214f, 8388607.5f, 8388607f, -16777216f, 16777218f};
        for (int i = 0; i < quarters.length; i++) {
            HiveLedger x = allRows(1);
            x.put(0, HONEY, 0, quarters[i]);
            Due.due("days", x.days(0, 0, 1), 1);
            Due.dueHoney("HONEY of " + quarters[i] + " quarters", x.look(0, HONEY, 0), want[i]);
        }
    }

    private static void honeyLessHalfIsNeverMuch() {
        for (int sign : new int[] {1, -1}) {
            HiveLedger x = allRows(1);
            x.put(0, HONEY, 0, sign * 0xFFFFFF);
            for (int i = 0; i < 106; i++) {
                x.turn(0, HONEY, 0, 2, 8);
            }
            Due.due("a day of very much", x.days(0, 0, 1), 1);
            Due.due("fault()", x.fault(), 0);
            Due.due("stays", x.look(0, HONEY, 0), sign > 0 ? 0x7F7FFFFF : 0xFF7FFFFF);
        }
    }

    /** 'SWARMS' cell d is looked at' */
    private static void swarmsAreOnlyLookedAt() {
        HiveLedger x = allRows(2);
        x.put(0, SWARMS, 1, 1);
        x.days(0, 0, 2);
        x.days(0, 0, 2);
        Due.due("SWARMS", x.look(0, SWARMS, 0), 0);
        Due.due("SWARMS", x.look(0, SWARMS, 1), 1);
    }

    /** 'The first fault of these ends it': here the order is that of the day, not that of the faults. */
    private static void firstFaultIsOfTheFirstRowAsked() {
        int[] order = {SWARMS, MITES, HONEY, MARKS, HEATS};
        for (int i = 0; i < 4; i++) {
            for (int j = i + 1; j < 5; j++) {
                HiveLedger x = allRows(2);
                x.lay(0, order[i], 0);
                x.lose(0, order[j]);
                Due.dueFault(x, "row " + order[i] + " empty, " + order[j] + " lost", x.days(0, 0, 1), 2);
                x = allRows(2);
                x.lose(0, order[i]);
                x.lay(0, order[j], 0);
                Due.dueFault(x, "row " + order[i] + " lost, " + order[j] + " empty", x.days(0, 0, 1), 1);
            }
        }
    }

    /** 'what was done stays' */
    private static void whatWasDoneStays() {
        int[] order = {SWARMS, MITES, HONEY, MARKS, HEATS};
        int[] done = {0, 1, MINUS_HALF, 1, 1};
        for (int missing = 0; missing < 5; missing++) {
            for (int cells = -1; cells <= 1; cells++) {
                HiveLedger x = allRows(3);
                x.lay(0, order[missing], Math.max(cells, 0));
                if (cells < 0) {
                    x.lose(0, order[missing]);
                }
                int whole = Math.max(cells, 0);
                Due.due("days without row " + order[missing], x.days(0, 0, 3), whole);
                Due.due("fault()", x.fault(), cells < 0 ? 1 : 2);
                Due.due("one act with it", x.count(cells < 0 ? 1 : 2), 1);
                stays(x, order, done, missing, whole);
            }
        }
    }

    private static void stays(HiveLedger x, int[] order, int[] done, int missing, int whole) {
        for (int i = 0; i < 5; i++) {
            if (i != missing) {
                for (int day = 0; day < 3; day++) {
                    boolean was = day < whole || day == whole && i < missing;
                    Due.due("row " + order[i] + " of day " + day + " without row " + order[missing],
                        x.look(0, order[i], day), was ? done[i] : 0);
                }
            }
        }
    }

    /** 'So many DAYS .. one behind the other' */
    private static void daysOneBehindTheOther() {
        HiveLedger x = allRows(5);
        x.lay(0, HEATS, 4);
        Due.due("days(0, 2, 3)", x.days(0, 2, 3), 2);
        Due.due("fault()", x.fault(), 2);
        int[] mites = {0, 0, 1, 1, 1};
        for (int day = 0; day < 5; day++) {
            Due.due("MITES of day " + day, x.look(0, MITES, day), mites[day]);
            Due.due("MARKS of day " + day, x.look(0, MARKS, day), mites[day]);
        }
        Due.due("HEATS of day 1", x.look(0, HEATS, 1), 0);
        Due.due("HEATS of day 3", x.look(0, HEATS, 3), 1);
    }

    private static void daysOfSharedRows() {
        HiveLedger x = allRows(2);
        for (int row = 0; row < 5; row++) {
            x.share(0, row);
        }
        Due.due("days(1, 0, 2)", x.days(1, 0, 2), 2);
        Due.due("days(0, 0, 2)", x.days(0, 0, 2), 2);
        for (int yard = 0; yard < 2; yard++) {
            Due.due("MITES", x.look(yard, MITES, 1), 2);
            Due.due("HONEY", x.look(yard, HONEY, 1), 0xBF800000);
            Due.due("MARKS", x.look(yard, MARKS, 1), 3);
            Due.due("HEATS", x.look(yard, HEATS, 1), 2);
        }
        x.lose(0, HONEY);
        Due.dueFault(x, "days without HONEY", x.days(0, 0, 2), 1);
        Due.due("MITES in the other yard grow, too", x.look(1, MITES, 0), 3);
        Due.due("HONEY in the other yard stays", x.look(1, HONEY, 0), 0xBF800000);
    }
}

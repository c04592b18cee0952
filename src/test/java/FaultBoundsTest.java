import java.util.function.ToIntFunction;

/**
 * The faults that stand under 'Terms': each at its own bound, which of several is told, what is answered
 * with it, and that with a fault nothing has changed.
 */
public final class FaultBoundsTest {
    private static final int NONE = HiveLedger.NONE;
    private static final int MARKS = Due.MARKS;
    private static final int HEATS = Due.HEATS;
    private static final int HONEY = Due.HONEY;
    private static final int SWARMS = Due.SWARMS;
    private static final int MITES = Due.MITES;
    private static final int MIN = Due.MIN;
    private static final int MAX = Due.MAX;

    private static final int[] NO_YARDS = {-1, 2, 3, MIN, MAX};
    private static final int[] NO_ROWS = {-1, -5, 5, 6, MIN, MAX};
    private static final int[] NO_MEADOWS = {-1, 4, 5, MIN, MAX};
    private static final int[] NO_OPERATIONS = {-1, 13, 14, MIN, MAX};

    public static void main(String[] args) {
        wrongYard();
        wrongRow();
        wrongMeadow();
        wrongOperation();
        wrongDays();
        operationThatTheRowHasNot();
        great();
        size();
        lostRows();
        lostMeadowsAndBeds();
        noSuchCell();
        noSuchBed();
        noSuchBlossom();
        zero();
        much();
        wrongAheadOfAll();
        hasNotAheadOfTheRest();
        greatAheadOfSize();
        lostAheadOfCell();
        lostAndCellAheadOfZero();
        lostAndCellOfAMeadowsBed();
        Due.end();
    }

    /**
     * Yard 0 has all rows, of two cells, much HONEY in the second; yard 1 shares MARKS, has HEATS of one
     * cell and SWARMS of none, HONEY and MITES are lost there. Meadow 0 has two beds, meadow 1 three, of
     * which bed 0 is one with meadow 0's bed 0, and bed 1 is lost; meadow 2 has none, meadow 3 is lost.
     */
    private static HiveLedger furnished() {
        HiveLedger x = new HiveLedger();
        for (int row = 0; row < 5; row++) {
            x.lay(0, row, 2);
            x.put(0, row, 0, 12 + row);
            x.put(0, row, 1, -3 - row);
        }
        for (int i = 0; i < 4; i++) {
            x.turn(0, HONEY, 1, 2, MAX);
        }
        x.share(0, MARKS);
        x.lay(1, HEATS, 1);
        x.put(1, HEATS, 0, 99);
        x.lay(1, SWARMS, 0);
        x.meadow(0, 2, 2);
        x.meadow(1, 3, 1);
        x.meadow(2, 0, 20);
        x.tend(0, 0, 1, 0, 41);
        x.tend(0, 1, 0, 0, -5);
        x.tend(1, 2, 0, 0, 6);
        x.join(1, 0, 0, 0);
        x.cut(1, 1);
        return x;
    }

    private static String state(HiveLedger x) {
        StringBuilder all = new StringBuilder();
        for (int yard = 0; yard < 2; yard++) {
            for (int row = 0; row < 5; row++) {
                int cells = x.size(yard, row);
                all.append(" row").append(cells).append('/').append(x.fault());
                for (int cell = 0; cell < cells; cell++) {
                    all.append(' ').append(x.look(yard, row, cell));
                }
            }
        }
        for (int meadow = 0; meadow < 4; meadow++) {
            int beds = x.width(meadow, NONE);
            all.append(" meadow").append(beds).append('/').append(x.fault());
            for (int bed = 0; bed < beds; bed++) {
                int cells = x.width(meadow, bed);
                all.append(" bed").append(cells).append('/').append(x.fault());
                for (int cell = 0; cell < cells; cell++) {
                    all.append(' ').append(x.see(meadow, bed, cell));
                }
            }
        }
        return all.toString();
    }

    /** What is shared or one with another shows only when it is written. */
    private static void stillShared(HiveLedger x, String call) {
        x.put(0, MARKS, 1, 4321);
        Due.due("MARKS are shared still behind " + call, x.look(1, MARKS, 1), 4321);
        x.put(0, HEATS, 0, 4321);
        Due.due("HEATS are not shared behind " + call, x.look(1, HEATS, 0), 99);
        x.tend(1, 0, 1, 0, 1);
        Due.due("the beds are one still behind " + call, x.see(0, 0, 1), 42);
        x.tend(1, 2, 0, 0, 1);
        Due.due("other beds are not behind " + call, x.see(0, 1, 0), -5);
    }

    private static void refused(String call, int fault, int answer, ToIntFunction<HiveLedger> act) {
        HiveLedger x = furnished();
        String ahead = state(x);
        int before = x.count(fault);
        int acts = x.count(9);
        Due.due(call, act.applyAsInt(x), answer);
        Due.due("fault() behind " + call, x.fault(), fault);
        Due.due("count(" + fault + ") behind " + call, x.count(fault), before + 1);
        Due.due("count(9) behind " + call, x.count(9), acts + 1);
        Due.due(call + " changes nothing", state(x).equals(ahead) ? 1 : 0, 1);
        stillShared(x, call);
    }

    /** For the acts whose answer is the fault. */
    private static void tells(String call, int fault, ToIntFunction<HiveLedger> act) {
        refused(call, fault, fault, act);
    }

    /** For the acts that answer something else: 0 with a fault. */
    private static void asks(String call, int fault, ToIntFunction<HiveLedger> act) {
        refused(call, fault, 0, act);
    }

    /** '8 WRONG: a yard .. that there is not' */
    private static void wrongYard() {
        for (int yard : NO_YARDS) {
            tells("lay in yard " + yard, 8, x -> x.lay(yard, MARKS, 3));
            tells("lose in yard " + yard, 8, x -> x.lose(yard, MARKS));
            tells("share of yard " + yard, 8, x -> x.share(yard, HEATS));
            asks("size in yard " + yard, 8, x -> x.size(yard, MARKS));
            asks("look in yard " + yard, 8, x -> x.look(yard, MARKS, 0));
            tells("put in yard " + yard, 8, x -> x.put(yard, MARKS, 0, 7));
            tells("turn in yard " + yard, 8, x -> x.turn(yard, MARKS, 0, 0, 7));
            asks("days in yard " + yard, 8, x -> x.days(yard, 0, 1));
            asks("no days in yard " + yard, 8, x -> x.days(yard, 0, 0));
        }
    }

    /** '8 WRONG: a .. row .. that there is not' */
    private static void wrongRow() {
        for (int row : NO_ROWS) {
            for (int yard = 0; yard < 2; yard++) {
                int y = yard;
                tells("lay of row " + row, 8, x -> x.lay(y, row, 3));
                tells("lose of row " + row, 8, x -> x.lose(y, row));
                tells("share of row " + row, 8, x -> x.share(y, row));
                asks("size of row " + row, 8, x -> x.size(y, row));
                asks("look at row " + row, 8, x -> x.look(y, row, 0));
                tells("put in row " + row, 8, x -> x.put(y, row, 0, 7));
                tells("turn of row " + row, 8, x -> x.turn(y, row, 0, 0, 7));
            }
        }
    }

    /** '8 WRONG: a .. meadow .. that there is not' */
    private static void wrongMeadow() {
        for (int no : NO_MEADOWS) {
            tells("meadow " + no, 8, x -> x.meadow(no, 1, 1));
            tells("join of meadow " + no, 8, x -> x.join(no, 0, 0, 1));
            tells("join with meadow " + no, 8, x -> x.join(0, 1, no, 0));
            tells("cut of meadow " + no, 8, x -> x.cut(no, NONE));
            tells("cut of a bed of meadow " + no, 8, x -> x.cut(no, 0));
            asks("width of meadow " + no, 8, x -> x.width(no, NONE));
            asks("width of a bed of meadow " + no, 8, x -> x.width(no, 0));
            asks("see meadow " + no, 8, x -> x.see(no, 0, 0));
            tells("tend meadow " + no, 8, x -> x.tend(no, 0, 0, 0, 7));
        }
    }

    /** '8 WRONG: a .. operation (how) that there is not' */
    private static void wrongOperation() {
        for (int how : NO_OPERATIONS) {
            for (int row = 0; row < 5; row++) {
                int r = row;
                tells("turn of row " + row + " by how " + how, 8, x -> x.turn(0, r, 0, how, 7));
            }
            tells("tend by how " + how, 8, x -> x.tend(0, 0, 0, how, 7));
        }
    }

    /** '8 WRONG: .. days that are not 0 .. 24' */
    private static void wrongDays() {
        for (int days : new int[] {-1, 25, 26, MIN, MAX}) {
            asks("days(0, 0, " + days + ")", 8, x -> x.days(0, 0, days));
            asks("days(0, 24, " + days + ")", 8, x -> x.days(0, 24, days));
            asks("days(1, 0, " + days + ")", 8, x -> x.days(1, 0, days));
        }
    }

    /** '7 an operation that the row has not' */
    private static void operationThatTheRowHasNot() {
        for (int how : new int[] {0, 1, 2, 3, 4, 5, 6, 7, 11, 12}) {
            tells("turn of SWARMS by how " + how, 7, x -> x.turn(0, SWARMS, 0, how, 7));
        }
        for (int how : new int[] {5, 6, 7, 8, 9, 10}) {
            tells("turn of HONEY by how " + how, 7, x -> x.turn(0, HONEY, 0, how, 7));
        }
    }

    /** '4 GREAT: more than 24 cells of a row, more than 20 beds or cells of a bed' */
    private static void great() {
        for (int cells : new int[] {25, 26, MAX}) {
            for (int row = 0; row < 5; row++) {
                int r = row;
                tells("lay(0, " + row + ", " + cells + ")", 4, x -> x.lay(0, r, cells));
                tells("lay(1, " + row + ", " + cells + ")", 4, x -> x.lay(1, r, cells));
            }
        }
        for (int many : new int[] {21, 22, 24, MAX}) {
            for (int meadow = 0; meadow < 4; meadow++) {
                int m = meadow;
                tells(many + " beds of meadow " + meadow, 4, x -> x.meadow(m, many, 1));
                tells(many + " beds of no cells", 4, x -> x.meadow(m, many, 0));
                tells(many + " cells of meadow " + meadow, 4, x -> x.meadow(m, 1, many));
                tells(many + " cells of no beds", 4, x -> x.meadow(m, 0, many));
                tells(many + " of both", 4, x -> x.meadow(m, many, many));
            }
        }
    }

    /** '3 SIZE: a number of cells or beds below 0' */
    private static void size() {
        for (int few : new int[] {-1, -2, MIN}) {
            for (int row = 0; row < 5; row++) {
                int r = row;
                tells("lay(0, " + row + ", " + few + ")", 3, x -> x.lay(0, r, few));
                tells("lay(1, " + row + ", " + few + ")", 3, x -> x.lay(1, r, few));
            }
            for (int meadow = 0; meadow < 4; meadow++) {
                int m = meadow;
                tells(few + " beds of meadow " + meadow, 3, x -> x.meadow(m, few, 20));
                tells(few + " cells of meadow " + meadow, 3, x -> x.meadow(m, 20, few));
                tells(few + " cells of no beds", 3, x -> x.meadow(m, 0, few));
                tells(few + " of both", 3, x -> x.meadow(m, few, few));
            }
        }
    }

    /** '1 LOST: what has been lost', of a row */
    private static void lostRows() {
        for (int row : new int[] {HONEY, MITES}) {
            asks("size of a lost row", 1, x -> x.size(1, row));
            asks("look at a lost row", 1, x -> x.look(1, row, 0));
            tells("put in a lost row", 1, x -> x.put(1, row, 0, 7));
            tells("turn of a lost row", 1, x -> x.turn(1, row, 0, 0, 7));
        }
        HiveLedger bare = new HiveLedger();
        Due.dueFault(bare, "a day of a yard without any row", bare.days(0, 0, 24), 1);
    }

    /** '1 LOST: what has been lost', of a meadow and of a bed */
    private static void lostMeadowsAndBeds() {
        tells("join of a lost meadow", 1, x -> x.join(3, 0, 0, 0));
        tells("join with a lost meadow", 1, x -> x.join(0, 0, 3, 0));
        tells("cut of a lost meadow's bed", 1, x -> x.cut(3, 0));
        asks("width of a lost meadow", 1, x -> x.width(3, NONE));
        asks("width of a lost meadow's bed", 1, x -> x.width(3, 0));
        asks("see a lost meadow", 1, x -> x.see(3, 0, 0));
        tells("tend a lost meadow", 1, x -> x.tend(3, 0, 0, 0, 7));
        asks("width of a lost bed", 1, x -> x.width(1, 1));
        asks("see a lost bed", 1, x -> x.see(1, 1, 0));
        tells("tend a lost bed", 1, x -> x.tend(1, 1, 0, 0, 7));
    }

    /** '2 CELL: a cell .. that there is not', of a row, be it empty */
    private static void noSuchCell() {
        for (int cell : new int[] {-1, 2, 3, 24, MIN, MAX}) {
            for (int row = 0; row < 5; row++) {
                int r = row;
                int how = row == SWARMS ? 10 : 0;
                asks("look at cell " + cell, 2, x -> x.look(0, r, cell));
                tells("put in cell " + cell, 2, x -> x.put(0, r, cell, 7));
                tells("turn of cell " + cell, 2, x -> x.turn(0, r, cell, how, 7));
            }
            asks("the day " + cell, 2, x -> x.days(0, cell, 1));
        }
        asks("look at cell 0 of none", 2, x -> x.look(1, SWARMS, 0));
        tells("put in cell 0 of none", 2, x -> x.put(1, SWARMS, 0, 1));
        tells("turn of cell 0 of none", 2, x -> x.turn(1, SWARMS, 0, 9, 1));
        asks("cell 1 of one", 2, x -> x.look(1, HEATS, 1));
    }

    /** '2 CELL: a .. bed that there is not', of a meadow, be it empty */
    private static void noSuchBed() {
        for (int bed : new int[] {-2, 2, 3, 20, MIN, MAX}) {
            tells("cut of bed " + bed, 2, x -> x.cut(0, bed));
            asks("width of bed " + bed, 2, x -> x.width(0, bed));
        }
        for (int bed : new int[] {NONE, -2, 2, 3, 20, MIN, MAX}) {
            tells("join of bed " + bed, 2, x -> x.join(0, bed, 1, 2));
            tells("join with bed " + bed, 2, x -> x.join(1, 2, 0, bed));
            asks("see bed " + bed, 2, x -> x.see(0, bed, 0));
            tells("tend bed " + bed, 2, x -> x.tend(0, bed, 0, 0, 7));
        }
        tells("cut of bed 0 of none", 2, x -> x.cut(2, 0));
        asks("width of bed 0 of none", 2, x -> x.width(2, 0));
        tells("join of bed 0 of none", 2, x -> x.join(2, 0, 0, 0));
        tells("join with bed 0 of none", 2, x -> x.join(0, 0, 2, 0));
        asks("see bed 0 of none", 2, x -> x.see(2, 0, 0));
        tells("tend bed 0 of none", 2, x -> x.tend(2, 0, 0, 0, 7));
    }

    /** '2 CELL: a cell .. that there is not', of a bed */
    private static void noSuchBlossom() {
        for (int cell : new int[] {-1, 2, 3, 20, MIN, MAX}) {
            asks("see cell " + cell, 2, x -> x.see(0, 0, cell));
            tells("tend cell " + cell, 2, x -> x.tend(0, 0, cell, 0, 7));
        }
        asks("see cell 1 of one", 2, x -> x.see(1, 2, 1));
    }

    /** '5 ZERO: / or % by 0' */
    private static void zero() {
        for (int how = 3; how <= 4; how++) {
            int h = how;
            for (int row : new int[] {MARKS, HEATS, HONEY, MITES}) {
                tells("row " + row + " by 0, how " + how, 5, x -> x.turn(0, row, 0, h, 0));
                tells("row " + row + " by 0, how " + how, 5, x -> x.turn(0, row, 1, h, 0));
            }
            tells("BLOSSOMS by 0, how " + how, 5, x -> x.tend(0, 0, 1, h, 0));
            tells("BLOSSOMS of 0 by 0, how " + how, 5, x -> x.tend(0, 0, 0, h, 0));
        }
    }

    /** '6 MUCH: HONEY would be infinite' */
    private static void much() {
        for (int v : new int[] {MAX, MIN}) {
            tells("much HONEY by " + v, 6, x -> x.turn(0, HONEY, 1, 2, v));
        }
    }

    /** 'Of several the one that is told first here: 8, ..' */
    private static void wrongAheadOfAll() {
        tells("8 ahead of 7", 8, x -> x.turn(2, SWARMS, 0, 0, 7));
        tells("8 ahead of 4, yard", 8, x -> x.lay(2, MARKS, 25));
        tells("8 ahead of 4, row", 8, x -> x.lay(0, 5, 25));
        tells("8 ahead of 4, meadow", 8, x -> x.meadow(4, 21, 21));
        tells("8 ahead of 3, yard", 8, x -> x.lay(-1, MARKS, -1));
        tells("8 ahead of 3, meadow", 8, x -> x.meadow(-1, -1, -1));
        tells("8 ahead of 1, turn", 8, x -> x.turn(1, MITES, 0, 13, 7));
        tells("8 ahead of 1, tend", 8, x -> x.tend(3, 0, 0, 13, 7));
        tells("8 ahead of 1, a bed", 8, x -> x.tend(1, 1, 0, -1, 7));
        asks("8 ahead of 1, days", 8, x -> x.days(1, 0, 25));
        asks("8 ahead of 2, look", 8, x -> x.look(2, MARKS, 9));
        tells("8 ahead of 2, put", 8, x -> x.put(0, 5, -1, 7));
        tells("8 ahead of 2, turn", 8, x -> x.turn(0, MARKS, 2, 13, 7));
        asks("8 ahead of 2, see", 8, x -> x.see(4, 9, 9));
        tells("8 ahead of 2, tend", 8, x -> x.tend(0, 2, 2, 13, 7));
        tells("8 ahead of 2, cut", 8, x -> x.cut(4, 99));
        asks("8 ahead of 2, width", 8, x -> x.width(4, 99));
        asks("8 ahead of 2, days", 8, x -> x.days(0, -1, -1));
        tells("8 of the second meadow ahead of 1 of the first", 8, x -> x.join(3, 0, 4, 0));
        tells("8 of the second meadow ahead of 2 of the first", 8, x -> x.join(0, 9, -1, 0));
        tells("8 of the first meadow ahead of 1 of the second", 8, x -> x.join(4, 0, 3, 0));
        tells("8 ahead of 5, turn", 8, x -> x.turn(2, MARKS, 0, 3, 0));
        tells("8 ahead of 5, tend", 8, x -> x.tend(4, 0, 0, 4, 0));
        tells("8 ahead of 6", 8, x -> x.turn(2, HONEY, 1, 2, MAX));
    }

    /** '.. 7, 4, 3, 1, 2, 5, 6' */
    private static void hasNotAheadOfTheRest() {
        tells("7 ahead of 1", 7, x -> x.turn(1, HONEY, 0, 8, 7));
        tells("7 ahead of 2, HONEY", 7, x -> x.turn(0, HONEY, 2, 5, 7));
        tells("7 ahead of 2, SWARMS", 7, x -> x.turn(0, SWARMS, -1, 11, 7));
        tells("7 ahead of 2, no cells", 7, x -> x.turn(1, SWARMS, 0, 12, 7));
        tells("7 ahead of 5, /", 7, x -> x.turn(0, SWARMS, 0, 3, 0));
        tells("7 ahead of 5, %", 7, x -> x.turn(0, SWARMS, 1, 4, 0));
    }

    /** '.. 4, 3, ..' */
    private static void greatAheadOfSize() {
        tells("4 of beds ahead of 3 of cells", 4, x -> x.meadow(0, 21, -1));
        tells("4 of cells ahead of 3 of beds", 4, x -> x.meadow(0, -1, 21));
        tells("4 of beds ahead of 3 of cells, far", 4, x -> x.meadow(3, MAX, MIN));
        tells("4 of cells ahead of 3 of beds, far", 4, x -> x.meadow(3, MIN, MAX));
    }

    /** '.. 1, 2, ..' */
    private static void lostAheadOfCell() {
        for (int cell : new int[] {-1, 24, MAX}) {
            asks("1 ahead of 2, look", 1, x -> x.look(1, HONEY, cell));
            tells("1 ahead of 2, put", 1, x -> x.put(1, MITES, cell, 7));
            tells("1 ahead of 2, turn", 1, x -> x.turn(1, MITES, cell, 0, 7));
        }
    }

    /** '.. 1, 2, 5, ..' */
    private static void lostAndCellAheadOfZero() {
        for (int how = 3; how <= 4; how++) {
            int h = how;
            tells("1 ahead of 5, MITES", 1, x -> x.turn(1, MITES, 0, h, 0));
            tells("1 ahead of 5, HONEY", 1, x -> x.turn(1, HONEY, 0, h, 0));
            tells("1 ahead of 5, a meadow", 1, x -> x.tend(3, 0, 0, h, 0));
            tells("1 ahead of 5, a bed", 1, x -> x.tend(1, 1, 0, h, 0));
            tells("2 ahead of 5, MARKS", 2, x -> x.turn(0, MARKS, 2, h, 0));
            tells("2 ahead of 5, HONEY", 2, x -> x.turn(0, HONEY, -1, h, 0));
            tells("2 ahead of 5, a bed", 2, x -> x.tend(0, 2, 0, h, 0));
            tells("2 ahead of 5, a cell", 2, x -> x.tend(0, 0, 2, h, 0));
        }
    }

    /** 'of a meadow's bed: the meadow LOST, no such bed, the bed LOST, no such cell' */
    private static void lostAndCellOfAMeadowsBed() {
        asks("the meadow LOST ahead of no such bed, see", 1, x -> x.see(3, 99, 0));
        tells("the meadow LOST ahead of no such bed, tend", 1, x -> x.tend(3, 99, 0, 0, 7));
        asks("the meadow LOST ahead of no such bed, width", 1, x -> x.width(3, 99));
        tells("the meadow LOST ahead of no such bed, cut", 1, x -> x.cut(3, 99));
        tells("the meadow LOST ahead of no such bed, join", 1, x -> x.join(3, 99, 0, 0));
        tells("the second meadow LOST ahead of no such bed", 1, x -> x.join(0, 0, 3, 99));
        asks("no such bed ahead of no such cell", 2, x -> x.see(1, 3, 99));
        asks("the bed LOST ahead of no such cell, see", 1, x -> x.see(1, 1, 99));
        asks("the bed LOST ahead of no such cell, see", 1, x -> x.see(1, 1, -1));
        tells("the bed LOST ahead of no such cell, tend", 1, x -> x.tend(1, 1, 99, 0, 7));
        tells("the bed LOST ahead of no such cell, tend", 1, x -> x.tend(1, 1, -1, 0, 7));
        asks("no such cell", 2, x -> x.see(1, 0, 2));
    }
}

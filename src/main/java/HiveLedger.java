/**
 * A beekeeper's ledger of two yards: rows of marks, heats, honey, swarms and mites that are laid,
 * lost, shared, looked at, written and reckoned with, day by day; and meadows of blossoms in beds.
 */
public final class HiveLedger {
    public static final int NONE = -1;

    private static final int YARDS = 2;
    private static final int ROWS = 5;
    private static final int MOST_CELLS = 24;
    private static final int MOST_DAYS = 24;
    private static final int MEADOWS = 4;
    private static final int MOST_BEDS = 20;
    private static final int MOST_BLOSSOMS = 20;

    private static final int MARKS = 0;
    private static final int HEATS = 1;
    private static final int HONEY = 2;
    private static final int SWARMS = 3;
    private static final int MITES = 4;
    private static final int BLOSSOMS = 5;

    private static final int ADD = 0;
    private static final int SUBTRACT = 1;
    private static final int MULTIPLY = 2;
    private static final int DIVIDE = 3;
    private static final int REST = 4;
    private static final int SHIFT_LEFT = 5;
    private static final int SHIFT_RIGHT = 6;
    private static final int SHIFT_RIGHT_UNSIGNED = 7;
    private static final int AND = 8;
    private static final int OR = 9;
    private static final int EXCLUSIVE_OR = 10;
    private static final int ONE_MORE = 11;
    private static final int ONE_LESS = 12;

    private static final int FINE = 0;
    private static final int LOST = 1;
    private static final int CELL = 2;
    private static final int SIZE = 3;
    private static final int GREAT = 4;
    private static final int ZERO = 5;
    private static final int MUCH = 6;
    private static final int UNFIT = 7;
    private static final int WRONG = 8;
    private static final int ALL_ACTS = 9;

    /** HONEY is reckoned with in quarters, so this is the 1/2 that a day takes. */
    private static final int HALF_IN_QUARTERS = 2;

    /** A lost row is null; a shared one stands in both yards as the same object. */
    private final Row[] rows;
    /** A lost meadow is null. */
    private final Meadow[] meadows;
    private final int[] actsByFault;
    private int acts;
    private int latestFault;

    public HiveLedger() {
        rows = new Row[YARDS * ROWS];
        meadows = new Meadow[MEADOWS];
        actsByFault = new int[WRONG + 1];
        acts = 0;
        latestFault = FINE;
    }

    public int lay(int yard, int row, int cells) {
        if (!isRow(yard, row)) {
            return told(WRONG);
        }
        if (cells > MOST_CELLS) {
            return told(GREAT);
        }
        if (cells < 0) {
            return told(SIZE);
        }
        rows[place(yard, row)] = newRow(row, cells);
        return told(FINE);
    }

    public int lose(int yard, int row) {
        if (!isRow(yard, row)) {
            return told(WRONG);
        }
        rows[place(yard, row)] = null;
        return told(FINE);
    }

    public int share(int yard, int row) {
        if (!isRow(yard, row)) {
            return told(WRONG);
        }
        rows[place(1 - yard, row)] = rows[place(yard, row)];
        return told(FINE);
    }

    public int size(int yard, int row) {
        if (!isRow(yard, row)) {
            return refused(WRONG);
        }
        Row cells = rows[place(yard, row)];
        return cells == null ? refused(LOST) : answered(cells.length);
    }

    public int look(int yard, int row, int cell) {
        if (!isRow(yard, row)) {
            return refused(WRONG);
        }
        return shownTo(rows[place(yard, row)], cell);
    }

    public int put(int yard, int row, int cell, int v) {
        if (!isRow(yard, row)) {
            return told(WRONG);
        }
        Row cells = rows[place(yard, row)];
        int fault = cellFault(cells, cell);
        if (fault == FINE) {
            cells.write(cell, v);
        }
        return told(fault);
    }

    public int turn(int yard, int row, int cell, int how, int v) {
        if (!isRow(yard, row) || !isOperation(how)) {
            return told(WRONG);
        }
        if (!hasOperation(row, how)) {
            return told(UNFIT);
        }
        return told(operate(rows[place(yard, row)], cell, how, v));
    }

    public int days(int yard, int from, int days) {
        if (!isIndex(yard, YARDS) || days < 0 || days > MOST_DAYS) {
            return refused(WRONG);
        }
        for (int done = 0; done < days; done++) {
            int fault = liveDay(yard, from + done);
            if (fault != FINE) {
                told(fault);
                return done;
            }
        }
        return answered(days);
    }

    public int meadow(int meadow, int beds, int cells) {
        if (!isIndex(meadow, MEADOWS)) {
            return told(WRONG);
        }
        if (beds > MOST_BEDS || cells > MOST_BLOSSOMS) {
            return told(GREAT);
        }
        if (beds < 0 || cells < 0) {
            return told(SIZE);
        }
        meadows[meadow] = new Meadow(beds, cells);
        return told(FINE);
    }

    public int join(int meadow, int bed, int other, int from) {
        if (!isIndex(meadow, MEADOWS) || !isIndex(other, MEADOWS)) {
            return told(WRONG);
        }
        Meadow taker = meadows[meadow];
        Meadow giver = meadows[other];
        int fault = bedFault(taker, bed);
        if (fault == FINE) {
            fault = bedFault(giver, from);
        }
        if (fault == FINE) {
            taker.beds[bed] = giver.beds[from];
        }
        return told(fault);
    }

    public int cut(int meadow, int bed) {
        if (!isIndex(meadow, MEADOWS)) {
            return told(WRONG);
        }
        if (bed == NONE) {
            meadows[meadow] = null;
            return told(FINE);
        }
        Meadow land = meadows[meadow];
        int fault = bedFault(land, bed);
        if (fault == FINE) {
            land.beds[bed] = null;
        }
        return told(fault);
    }

    public int width(int meadow, int bed) {
        if (!isIndex(meadow, MEADOWS)) {
            return refused(WRONG);
        }
        Meadow land = meadows[meadow];
        if (bed == NONE) {
            return land == null ? refused(LOST) : answered(land.beds.length);
        }
        int fault = bedFault(land, bed);
        if (fault != FINE) {
            return refused(fault);
        }
        Row cells = land.beds[bed];
        return cells == null ? refused(LOST) : answered(cells.length);
    }

    public int see(int meadow, int bed, int cell) {
        if (!isIndex(meadow, MEADOWS)) {
            return refused(WRONG);
        }
        Meadow land = meadows[meadow];
        int fault = bedFault(land, bed);
        return fault == FINE ? shownTo(land.beds[bed], cell) : refused(fault);
    }

    public int tend(int meadow, int bed, int cell, int how, int v) {
        if (!isIndex(meadow, MEADOWS) || !isOperation(how)) {
            return told(WRONG);
        }
        Meadow land = meadows[meadow];
        int fault = bedFault(land, bed);
        if (fault == FINE) {
            fault = operate(land.beds[bed], cell, how, v);
        }
        return told(fault);
    }

    public int fault() {
        return latestFault;
    }

    public int count(int what) {
        if (what == ALL_ACTS) {
            return acts;
        }
        return isIndex(what, actsByFault.length) ? actsByFault[what] : NONE;
    }

    /** Every act ends here once, so that fault() and count() know of it. */
    private int told(int fault) {
        latestFault = fault;
        acts++;
        actsByFault[fault]++;
        return fault;
    }

    private int refused(int fault) {
        told(fault);
        return 0;
    }

    private int answered(int answer) {
        told(FINE);
        return answer;
    }

    private int shownTo(Row cells, int cell) {
        int fault = cellFault(cells, cell);
        return fault == FINE ? answered(cells.shown(cell)) : refused(fault);
    }

    /** Answers the day's first fault; what came ahead of it stays done, as the document wants. */
    private int liveDay(int yard, int day) {
        Row swarms = rows[place(yard, SWARMS)];
        Row mites = rows[place(yard, MITES)];
        Row marks = rows[place(yard, MARKS)];
        int fault = cellFault(swarms, day);
        if (fault == FINE) {
            fault = operate(mites, day, ADD, 1 + swarms.shown(day));
        }
        if (fault == FINE) {
            fault = operate(rows[place(yard, HONEY)], day, SUBTRACT, HALF_IN_QUARTERS);
        }
        if (fault == FINE) {
            fault = operate(marks, day, ADD, mites.shown(day));
        }
        if (fault == FINE) {
            fault = operate(rows[place(yard, HEATS)], day, EXCLUSIVE_OR, marks.shown(day));
        }
        return fault;
    }

    private static int operate(Row cells, int cell, int how, int v) {
        int fault = cellFault(cells, cell);
        if (fault != FINE) {
            return fault;
        }
        if (v == 0 && (how == DIVIDE || how == REST)) {
            return ZERO;
        }
        return cells.reckon(cell, how, v);
    }

    private static int cellFault(Row cells, int cell) {
        if (cells == null) {
            return LOST;
        }
        return isIndex(cell, cells.length) ? FINE : CELL;
    }

    private static int bedFault(Meadow land, int bed) {
        if (land == null) {
            return LOST;
        }
        return isIndex(bed, land.beds.length) ? FINE : CELL;
    }

    private static boolean isIndex(int index, int length) {
        return index >= 0 && index < length;
    }

    private static boolean isRow(int yard, int row) {
        return isIndex(yard, YARDS) && isIndex(row, ROWS);
    }

    private static boolean isOperation(int how) {
        return how >= ADD && how <= ONE_LESS;
    }

    private static boolean hasOperation(int row, int how) {
        if (row == SWARMS) {
            return how >= AND && how <= EXCLUSIVE_OR;
        }
        if (row == HONEY) {
            return how <= REST || how >= ONE_MORE;
        }
        return true;
    }

    private static int place(int yard, int row) {
        return yard * ROWS + row;
    }

    private static Row newRow(int row, int cells) {
        return row == HONEY ? new HoneyRow(cells) : new WholeRow(row, cells);
    }

    /** Cells of one kind. Callers have tested the cell, and that v is not 0 where it divides. */
    private abstract static class Row {
        final int length;

        Row(int length) {
            this.length = length;
        }

        abstract int shown(int cell);

        abstract void write(int cell, int v);

        /** Answers the fault, with which the cell stays as it was. */
        abstract int reckon(int cell, int how, int v);
    }

    /** A row of whole numbers; a bed of blossoms is one, too. */
    private static final class WholeRow extends Row {
        private final int kind;
        private final int[] cells;

        WholeRow(int kind, int length) {
            super(length);
            this.kind = kind;
            this.cells = new int[length];
        }

        int shown(int cell) {
            return cells[cell];
        }

        void write(int cell, int v) {
            cells[cell] = kept(v);
        }

        int reckon(int cell, int how, int v) {
            int number = kind == SWARMS ? kept(v) : v;
            cells[cell] = kept(reckoned(cells[cell], how, number));
            return FINE;
        }

        private int kept(int v) {
            switch (kind) {
                case MARKS: return v & 0xFFFF;
                case HEATS: return (short) v;
                case SWARMS: return v != 0 ? 1 : 0;
                case MITES: return (byte) v;
                default: return v;
            }
        }

        private static int reckoned(int x, int how, int v) {
            switch (how) {
                case ADD: return x + v;
                case SUBTRACT: return x - v;
                case MULTIPLY: return x * v;
                case DIVIDE: return x / v;
                case REST: return x % v;
                case SHIFT_LEFT: return x << v;
                case SHIFT_RIGHT: return x >> v;
                case SHIFT_RIGHT_UNSIGNED: return x >>> v;
                case AND: return x & v;
                case OR: return x | v;
                case EXCLUSIVE_OR: return x ^ v;
                case ONE_MORE: return x + 1;
                case ONE_LESS: return x - 1;
                default: return x;
            }
        }
    }

    /** A row of numbers of four bytes. */
    private static final class HoneyRow extends Row {
        private static final int SIGN = 0x80000000;
        private static final int FRACTION_BITS = 23;
        private static final int LEAST_WHOLE_FRACTION = 1 << FRACTION_BITS;
        /** The exponent field of a number whose fraction, read as a whole number, is its value. */
        private static final int WHOLE_EXPONENT = 150;
        private static final int LEAST_EXPONENT = 1;
        private static final int GREATEST_EXPONENT = 254;
        /** More than the doublings from the least number of quarters to the greatest honey. */
        private static final int MOST_DOUBLINGS = 300;

        private final float[] cells;

        HoneyRow(int length) {
            super(length);
            this.cells = new float[length];
        }

        int shown(int cell) {
            return bytesOf(cells[cell]);
        }

        void write(int cell, int v) {
            cells[cell] = quarters(v);
        }

        int reckon(int cell, int how, int v) {
            float next = reckoned(cells[cell], how, quarters(v));
            if (isInfinite(next)) {
                return MUCH;
            }
            cells[cell] = next;
            return FINE;
        }

        private static float quarters(int v) {
            return (float) v / 4;
        }

        private static boolean isInfinite(float x) {
            return x > 3.4028235E38f || x < -3.4028235E38f;
        }

        private static float reckoned(float x, int how, float v) {
            switch (how) {
                case ADD: return x + v;
                case SUBTRACT: return x - v;
                case MULTIPLY: return x * v;
                case DIVIDE: return x / v;
                case REST: return restOf(x, v);
                case ONE_MORE: return x + 1;
                case ONE_LESS: return x - 1;
                default: return x;
            }
        }

        /**
         * The language rules leave no % for such numbers: v's doublings are taken off, the greatest
         * first. Nothing is rounded on the way, as no doubling taken off is below half of what is left.
         */
        private static float restOf(float x, float v) {
            double left = sizeOf(x);
            double least = sizeOf(v);
            if (left < least) {
                return x;
            }
            double step = least;
            for (int i = 0; i < MOST_DOUBLINGS && step * 2 <= left; i++) {
                step = step * 2;
            }
            for (int i = 0; i < MOST_DOUBLINGS && step >= least; i++) {
                if (left >= step) {
                    left = left - step;
                }
                step = step / 2;
            }
            // a product, as a rest of 0 has x's sign, too
            return (float) (x < 0 ? left * -1 : left);
        }

        private static float sizeOf(float x) {
            return x < 0 ? x * -1 : x;
        }

        /** The language rules leave no call that answers a number's bytes, so they are reckoned. */
        private static int bytesOf(float x) {
            double fraction = sizeOf(x);
            int exponent = WHOLE_EXPONENT;
            while (fraction >= 2 * LEAST_WHOLE_FRACTION && exponent < GREATEST_EXPONENT) {
                fraction = fraction / 2;
                exponent++;
            }
            while (fraction < LEAST_WHOLE_FRACTION && exponent > LEAST_EXPONENT) {
                fraction = fraction * 2;
                exponent--;
            }
            // the fraction's highest bit, which the bytes leave out, carries into the exponent;
            // a number too small to have it thereby gets exponent 0
            int bytes = ((exponent - 1) << FRACTION_BITS) + (int) fraction;
            return isNegative(x) ? bytes | SIGN : bytes;
        }

        /** Of the two zeros only a division by them tells which is which. */
        private static boolean isNegative(float x) {
            return x < 0 || x == 0 && 1 / x < 0;
        }
    }

    private static final class Meadow {
        /** A lost bed is null; joined ones are the same object. */
        final Row[] beds;

        Meadow(int count, int cells) {
            beds = new Row[count];
            for (int i = 0; i < count; i++) {
                beds[i] = new WholeRow(BLOSSOMS, cells);
            }
        }
    }
}

/** The bounds of promises 16 and 17, of how long an object is used, and of whose its memory is. */
public final class UseBoundsTest {
    private static final int MOST_CALLS = 512;

    public static void main(String[] args) {
        faultAheadOfAnyAct();
        faultIsTheLatestOnly();
        countAheadOfAnyAct();
        countOfEachFault();
        countOfAllActs();
        countOfAnotherWhat();
        askingIsNoAct();
        daysAreOneAct();
        lastCallOfAll();
        fullMeadowsTillTheEnd();
        memoryIsTheLedgersOwn();
        Due.end();
    }

    /** Makes an act that has the fault, of a furnished ledger. */
    private static void make(HiveLedger x, int fault) {
        switch (fault) {
            case 0: x.look(0, Due.SWARMS, 0); break;
            case 1: x.look(1, Due.MITES, 0); break;
            case 2: x.look(0, Due.SWARMS, 1); break;
            case 3: x.lay(1, Due.MITES, -1); break;
            case 4: x.lay(1, Due.MITES, 25); break;
            case 5: x.turn(0, Due.MARKS, 0, 3, 0); break;
            case 6: x.turn(0, Due.HONEY, 0, 2, Due.MAX); break;
            case 7: x.turn(0, Due.SWARMS, 0, 0, 1); break;
            default: x.size(2, 0); break;
        }
    }

    /** Eight acts: yard 0 has one cell of SWARMS, one of MARKS, and one of very much HONEY. */
    private static HiveLedger furnished() {
        HiveLedger x = new HiveLedger();
        x.lay(0, Due.SWARMS, 1);
        x.lay(0, Due.MARKS, 1);
        x.lay(0, Due.HONEY, 1);
        x.put(0, Due.HONEY, 0, 4);
        for (int i = 0; i < 4; i++) {
            x.turn(0, Due.HONEY, 0, 2, Due.MAX);
        }
        return x;
    }

    /** Promise 16: '0 .. ahead of any' */
    private static void faultAheadOfAnyAct() {
        HiveLedger x = new HiveLedger();
        Due.due("fault()", x.fault(), 0);
        x.count(9);
        x.count(-1);
        Due.due("fault() behind count()", x.fault(), 0);
    }

    /** Promise 16: 'The latest act's fault (0 without one ..)' */
    private static void faultIsTheLatestOnly() {
        for (int first = 0; first <= 8; first++) {
            HiveLedger x = furnished();
            for (int second = 0; second <= 8; second++) {
                make(x, first);
                Due.due("fault()", x.fault(), first);
                make(x, second);
                Due.due("fault() behind another act", x.fault(), second);
                Due.due("fault() again", x.fault(), second);
            }
        }
    }

    private static void countAheadOfAnyAct() {
        HiveLedger x = new HiveLedger();
        for (int what = 0; what <= 9; what++) {
            Due.due("count(" + what + ")", x.count(what), 0);
        }
    }

    /** Promise 17: 'How many acts there were that had fault what (0: none) so far' */
    private static void countOfEachFault() {
        for (int fault = 0; fault <= 8; fault++) {
            HiveLedger x = furnished();
            for (int times = 1; times <= 20; times++) {
                make(x, fault);
                for (int what = 0; what <= 8; what++) {
                    int want = (what == 0 ? 8 : 0) + (what == fault ? times : 0);
                    Due.due("count(" + what + ") behind fault " + fault, x.count(what), want);
                }
            }
        }
    }

    /** Promise 17: '9: all acts' */
    private static void countOfAllActs() {
        HiveLedger x = furnished();
        for (int i = 0; i < 90; i++) {
            Due.due("count(9)", x.count(9), 8 + i);
            make(x, i % 9);
        }
        Due.due("count(9)", x.count(9), 98);
        Due.due("count(0)", x.count(0), 18);
        Due.due("count(8)", x.count(8), 10);
    }

    /** Promise 17: 'NONE for another what' */
    private static void countOfAnotherWhat() {
        HiveLedger x = furnished();
        for (int what : new int[] {-1, -2, -9, 10, 11, 512, Due.MIN, Due.MAX}) {
            Due.due("count(" + what + ")", x.count(what), HiveLedger.NONE);
            make(x, 8);
            Due.due("count(" + what + ") behind an act", x.count(what), -1);
        }
    }

    /** 'Each act but fault() and count() has a FAULT': what they ask they leave as it is. */
    private static void askingIsNoAct() {
        HiveLedger x = furnished();
        make(x, 5);
        for (int i = 0; i < 10; i++) {
            Due.due("fault()", x.fault(), 5);
            Due.due("count(10)", x.count(10), HiveLedger.NONE);
            Due.due("fault()", x.fault(), 5);
            Due.due("count(5)", x.count(5), 1);
            Due.due("count(9)", x.count(9), 9);
            Due.due("count(0)", x.count(0), 8);
        }
    }

    /** However many days are done, and wherever they end, they are one act with one fault. */
    private static void daysAreOneAct() {
        HiveLedger x = new HiveLedger();
        for (int row = 0; row < 5; row++) {
            x.lay(0, row, 23);
        }
        x.days(0, 0, 23);
        Due.due("count(9)", x.count(9), 6);
        Due.due("count(0)", x.count(0), 6);
        x.days(0, 0, 24);
        Due.due("fault()", x.fault(), 2);
        Due.due("count(9)", x.count(9), 7);
        Due.due("count(0)", x.count(0), 6);
        Due.due("count(2)", x.count(2), 1);
        x.days(0, 0, 25);
        Due.due("count(8)", x.count(8), 1);
        Due.due("count(9)", x.count(9), 8);
    }

    /** 'An object is used for at most 512 calls': the last of them is answered, too. */
    private static void lastCallOfAll() {
        HiveLedger x = new HiveLedger();
        x.lay(1, Due.MITES, 24);
        for (int call = 2; call < MOST_CALLS - 1; call++) {
            x.turn(1, Due.MITES, 23, 11, 0);
        }
        // 509 turns, which is 3 short of two times the 256 numbers that MITES have
        Due.due("look", x.look(1, Due.MITES, 23), -3);
        Due.due("the call 512", x.count(9), MOST_CALLS - 1);
        HiveLedger y = new HiveLedger();
        for (int call = 1; call < MOST_CALLS; call++) {
            y.look(1, Due.MITES, 23);
        }
        Due.due("the call 512", y.count(1), MOST_CALLS - 1);
    }

    /** The dearest call again and again, and what it laid last is there. */
    private static void fullMeadowsTillTheEnd() {
        HiveLedger x = new HiveLedger();
        for (int call = 0; call < 255; call++) {
            Due.due("meadow", x.meadow(call % 4, 20, 20), 0);
            Due.due("tend", x.tend(call % 4, 19, 19, 0, call + 1), 0);
        }
        Due.due("see", x.see(2, 19, 19), 255);
        Due.due("see", x.see(3, 19, 19), 252);
    }

    /** 'All memory is the ledger's own.' */
    private static void memoryIsTheLedgersOwn() {
        HiveLedger x = new HiveLedger();
        HiveLedger y = new HiveLedger();
        x.lay(0, Due.MARKS, 2);
        x.meadow(0, 2, 2);
        Due.dueFault(y, "another ledger's row", y.size(0, Due.MARKS), 1);
        Due.dueFault(y, "another ledger's meadow", y.width(0, HiveLedger.NONE), 1);
        y.lay(0, Due.MARKS, 2);
        y.meadow(0, 2, 2);
        x.put(0, Due.MARKS, 1, 7);
        x.tend(0, 1, 1, 0, 7);
        Due.due("another ledger's cell", y.look(0, Due.MARKS, 1), 0);
        Due.due("another ledger's blossom", y.see(0, 1, 1), 0);
        x.look(9, 9, 9);
        Due.due("another ledger's fault", y.fault(), 0);
        Due.due("another ledger's acts", y.count(9), 6);
        Due.due("this one's acts", x.count(9), 5);
    }
}
